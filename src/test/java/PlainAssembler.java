import java.util.ArrayList;
import java.util.LinkedHashMap;
import java.util.List;
import java.util.Map;
import java.util.regex.Matcher;
import java.util.regex.Pattern;

/**
 * The document's section IV once more, by other means: each token of a line is one letter of a word that the
 * pattern of a line must match, and SYNTAX is where no such word goes on. The class is held against it.
 */
final class PlainAssembler {
    static final List<String> WAY_WORDS = List.of("lda", "ldx", "ldy", "add", "sub", "and", "ora", "xor", "cmp", "cpx",
            "cpy", "tst", "mul", "div", "adx", "ady", "sta", "stx", "sty", "stz", "inc", "dec", "shl", "shr", "rol",
            "ror", "set", "clr", "swp", "adm", "jmp", "jsr");
    static final List<String> SHORT_WORDS = List.of("beq", "bne", "bcs", "bcc", "bmi", "bpl", "bvs", "bvc", "bra",
            "djx", "djy", "(own)", "psh", "cal", "trp", "idl");
    static final List<String> OWN_WORDS = List.of("nop", "rts", "rti", "hlt", "tax", "txa", "tay", "tya", "tsx", "txs",
            "pha", "pla", "phx", "plx", "phy", "ply", "phf", "plf", "sec", "clc", "sei", "cli", "clv", "inx", "dex",
            "iny", "dey", "ina", "dea", "neg", "swn", "bcd");

    private static final String TERM = "[%&]?[dn.]";
    private static final String E = "-?" + TERM + "([+-]" + TERM + ")*";
    private static final String ANY = "(<" + E + "(,x)?|" + E + "(,[xy])?|\\(" + E + "\\)(,y)?)";
    private static final String WORD = "([OJ]" + E + "|[BW]" + E + "(," + E + ")*|Ts|[LH]#" + E + "|[LS]" + ANY + "|N)";
    private static final Pattern LINE = Pattern.compile("(n:)?" + WORD + "?|n=" + E);
    private static final Pattern LETTERS = Pattern.compile("[a-z][a-z0-9]*");
    private static final Pattern NUMBER = Pattern.compile("[0-9]{1,5}|\\$[0-9a-f]{1,4}|'[ -~]");
    private static final Pattern STRING = Pattern.compile("\"[ -~&&[^\"]]*");

    /** The fault (0 none) and its place (-1 without), the address behind the last line, what is laid. */
    int fault;
    int place = -1;
    int address;
    final int[] image = new int[4096];
    /** The names in their order; of each its place, and 1 if it stands ahead of =. */
    final Map<String, Integer> values = new LinkedHashMap<>();
    final List<int[]> names = new ArrayList<>();

    private final String text;

    /** Its letter in the line's word, its place, its own letters, and the place where it lacks a byte (or -1). */
    private record Token(char letter, int place, String letters, int missing) {
    }

    PlainAssembler(String text) {
        this.text = text;
        read(true);
        if (fault == 0) {
            read(false);
        }
    }

    private void read(boolean first) {
        address = 0;
        int start = 0;
        for (String line : text.split("\n", -1)) {
            List<Token> tokens = tokens(start, start + line.length());
            if (fault == 0) {
                readLine(tokens, first);
            }
            if (fault != 0) {
                return;
            }
            start += line.length() + 1;
        }
    }

    private void fail(int kind, int at) {
        if (fault == 0) {
            fault = kind;
            place = at;
        }
    }

    private List<Token> tokens(int start, int lineEnd) {
        List<Token> tokens = new ArrayList<>();
        String word = "";
        int at = skipBlanks(start, lineEnd);
        while (at < lineEnd && text.charAt(at) != ';' && fault == 0) {
            Token token = token(text.substring(at, lineEnd), at);
            word += token.letter;
            Matcher matcher = LINE.matcher(word);
            if (Character.isLowerCase(token.letters.charAt(0)) && token.letters.length() > 8) {
                fail(1, at + 8);
            } else if (!matcher.matches() && !matcher.hitEnd()) {
                fail(1, at);
            } else if (token.missing >= 0) {
                fail(1, token.missing);
            }
            tokens.add(token);
            at = skipBlanks(at + token.letters.length(), lineEnd);
        }
        if (!LINE.matcher(word).matches()) {
            fail(1, at);
        }
        return tokens;
    }

    private int skipBlanks(int at, int lineEnd) {
        while (at < lineEnd && text.charAt(at) == ' ') {
            at++;
        }
        return at;
    }

    private static Token token(String rest, int at) {
        Matcher letters = LETTERS.matcher(rest);
        if (letters.lookingAt()) {
            return new Token(kind(letters.group()), at, letters.group(), -1);
        }
        Matcher number = NUMBER.matcher(rest);
        if (number.lookingAt()) {
            return new Token('d', at, number.group(), -1);
        }
        Matcher string = STRING.matcher(rest);
        if (string.lookingAt()) {
            boolean whole = string.end() < rest.length() && rest.charAt(string.end()) == '"';
            return whole ? new Token('s', at, string.group() + '"', -1)
                    : new Token('s', at, string.group(), at + string.end());
        }
        String mark = rest.substring(0, 1);
        if (mark.equals("$") || mark.equals("'")) {
            return new Token('d', at, mark, at + 1);
        }
        return new Token(":=,#<()+-%&.".contains(mark) ? mark.charAt(0) : '?', at, mark, -1);
    }

    private static char kind(String letters) {
        if (WAY_WORDS.contains(letters)) {
            return WAY_WORDS.indexOf(letters) < 16 ? 'L' : 'S';
        }
        if (SHORT_WORDS.contains(letters)) {
            return List.of("psh", "trp", "idl").contains(letters) ? 'H' : 'J';
        }
        if (OWN_WORDS.contains(letters)) {
            return 'N';
        }
        switch (letters) {
            case "org": case "space": return 'O';
            case "byte": return 'B';
            case "word": return 'W';
            case "text": return 'T';
            case "x": case "y": return letters.charAt(0);
            default: return 'n';
        }
    }

    private void readLine(List<Token> tokens, boolean first) {
        boolean named = tokens.size() > 1 && ":=".indexOf(tokens.get(1).letter) >= 0;
        boolean equation = named && tokens.get(1).letter == '=';
        List<Token> rest = tokens.subList(named ? 2 : 0, tokens.size());
        Token word = equation || rest.isEmpty() ? new Token('-', -1, "", -1) : rest.get(0);
        List<List<Token>> sums = sums(equation ? rest : rest.subList(Math.min(1, rest.size()), rest.size()));
        boolean now = equation || word.letter == 'O';
        if (first && named && values.containsKey(tokens.get(0).letters)) {
            fail(3, tokens.get(0).place);
        } else if (first && named && values.size() == 60) {
            fail(6, tokens.get(0).place);
        }
        if (now || !first) {
            unknown(sums);
        }
        if (fault != 0) {
            return;
        }
        int value = now ? value(sums.get(0)) : 0;
        boolean org = word.letters.equals("org");
        boolean space = word.letters.equals("space");
        if (word.letter == 'O' && (value < 0 || value > (org ? 4079 : 4080))) {
            fail(4, sums.get(0).get(0).place);
        }
        int size = space ? value : size(word, rest, sums.size());
        if (address + size > 4080) {
            fail(5, word.place);
        }
        if (first && named && fault == 0) {
            values.put(tokens.get(0).letters, equation || org ? value : address);
            names.add(new int[] {tokens.get(0).place, equation ? 1 : 0});
        }
        if (!first) {
            lay(word, rest, sums);
        }
        address = org ? value : address + size;
    }

    private static List<List<Token>> sums(List<Token> tokens) {
        List<List<Token>> sums = new ArrayList<>();
        boolean inside = false;
        for (Token token : tokens) {
            boolean part = "+-%&dn.".indexOf(token.letter) >= 0;
            if (part && !inside) {
                sums.add(new ArrayList<>());
            }
            if (part) {
                sums.get(sums.size() - 1).add(token);
            }
            inside = part;
        }
        return sums;
    }

    private void unknown(List<List<Token>> sums) {
        for (List<Token> sum : sums) {
            for (Token token : sum) {
                if (token.letter == 'n' && !values.containsKey(token.letters)) {
                    fail(2, token.place);
                }
            }
        }
    }

    private int value(List<Token> sum) {
        long whole = 0;
        int sign = 1;
        char part = ' ';
        for (Token token : sum) {
            if (token.letter == '+' || token.letter == '-') {
                sign = token.letter == '-' ? -1 : 1;
            } else if (token.letter == '%' || token.letter == '&') {
                part = token.letter;
            } else {
                long term = term(token);
                if (part != ' ') {
                    term = Math.floorMod(part == '%' ? Math.floorDiv(term, 256L) : term, 256L);
                }
                whole += sign * term;
                part = ' ';
            }
        }
        return (int) whole;
    }

    private long term(Token token) {
        String letters = token.letters;
        if (token.letter == 'n') {
            return values.get(letters);
        }
        switch (letters.charAt(0)) {
            case '.': return address;
            case '\'': return letters.charAt(1);
            case '$': return Integer.parseInt(letters.substring(1), 16);
            default: return Integer.parseInt(letters);
        }
    }

    private static int size(Token word, List<Token> rest, int sums) {
        switch (word.letter) {
            case 'B': return sums;
            case 'W': return 2 * sums;
            case 'T': return rest.get(1).letters.length() - 2;
            case 'L': case 'S': return "#<(".indexOf(rest.get(1).letter) >= 0 ? 2 : 3;
            case 'J': case 'H': case 'N': return 2;
            default: return 0;
        }
    }

    private void lay(Token word, List<Token> rest, List<List<Token>> sums) {
        List<Integer> bytes = new ArrayList<>();
        switch (word.letter) {
            case 'T':
                String quoted = rest.get(1).letters;
                for (int i = 1; i < quoted.length() - 1; i++) {
                    bytes.add((int) quoted.charAt(i));
                }
                break;
            case 'B': case 'W':
                for (List<Token> sum : sums) {
                    int v = word.letter == 'B' ? ranged(sum, 0, -128, 255) : ranged(sum, 0, -32768, 65535);
                    bytes.add(v);
                    if (word.letter == 'W') {
                        bytes.add(v >> 8);
                    }
                }
                break;
            case 'L': case 'S': layWay(bytes, word, rest, sums.get(0)); break;
            case 'H': case 'J':
                bytes.add(128 + 8 * SHORT_WORDS.indexOf(word.letters));
                bytes.add(word.letter == 'H' ? ranged(sums.get(0), 0, -128, 255)
                        : ranged(sums.get(0), address + 2, -128, 127));
                break;
            case 'N':
                bytes.add(216);
                bytes.add(OWN_WORDS.indexOf(word.letters));
                break;
            default: break;
        }
        for (int i = 0; i < bytes.size() && fault == 0; i++) {
            image[address + i] = bytes.get(i) & 255;
        }
    }

    private void layWay(List<Integer> bytes, Token word, List<Token> rest, List<Token> sum) {
        char mark = rest.get(1).letter;
        char last = rest.get(rest.size() - 1).letter;
        boolean index = last == 'x' || last == 'y';
        int way = 3;
        if (mark == '#') {
            way = 0;
        } else if (mark == '<') {
            way = index ? 2 : 1;
        } else if (mark == '(') {
            way = index ? 7 : 6;
        } else if (index) {
            way = last == 'x' ? 4 : 5;
        }
        int v = ranged(sum, 0, mark == '#' ? -128 : 0, "#<(".indexOf(mark) >= 0 ? 255 : 65535);
        bytes.add(8 * WAY_WORDS.indexOf(word.letters) + way);
        bytes.add(v);
        if (way >= 3 && way <= 5) {
            bytes.add(v >> 8);
        }
    }

    private int ranged(List<Token> sum, int less, int least, int most) {
        int v = value(sum) - less;
        if (v < least || v > most) {
            fail(4, sum.get(0).place);
        }
        return v;
    }
}
