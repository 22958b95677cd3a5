import java.util.Random;

/** Assembles random texts on a box and by the plain assembler: faults, places, names and bytes must agree. */
public final class AssemblerTest {
    private static final int TEXTS = 12_000;
    private static final int[] MET = new int[7];
    private static final String[] NAMES = {"a", "b1", "name", "abcdefgh", "x1", "y9", "ldab", "or", "own", "z", "byt"};
    private static final String[] NUMBERS = {"0", "1", "2", "127", "128", "129", "255", "256", "4079", "4080", "4081",
        "32768", "32769", "65535", "65536", "99999", "$0", "$7f", "$ff", "$100", "$ffff", "'a", "' ", "''", "'\"", "';",
        ".", ".", ".", "."};
    private static final String[] PIECES = {" ", " ", "\n", ":", "=", ";", ",", "#", "<", "(", ")", "+", "-", "%", "&",
        ".", "'", "\"", "$", "x", "y", "5", "1", "9", "f", "a", "nop", "lda ", "org ", "space ", "byte ", "word ",
        "text ", "beq ", "psh ", "abcdefghi", "A", "\t", "\0", "\377", "\177", "?"};

    public static void main(String[] args) {
        Random random = new Random(20);
        BelfryBox box = new BelfryBox();
        PlainAssembler settled = new PlainAssembler("");
        for (int k = 0; k < TEXTS; k++) {
            String text = text(random);
            PlainAssembler plain = new PlainAssembler(text);
            MET[plain.fault]++;
            String told = "text " + k + " " + text.replace('\n', '/') + ": ";
            int due = plain.fault == 0 ? plain.address : BelfryBox.NONE;
            Check.due(told + "assemble", Check.assemble(box, text), due);
            Check.due(told + "fault", box.fault(0), plain.fault);
            Check.due(told + "place", box.fault(1), plain.place);
            if (plain.fault == 0) {
                settled = plain;
            }
            compare(told, box, settled, plain.fault == 0 || k % 20 == 0);
        }
        for (int fault = 0; fault <= 6; fault++) {
            Check.due("fault " + fault + " was met often", MET[fault] > 100, true);
        }
        Check.end();
    }

    private static void compare(String told, BelfryBox box, PlainAssembler plain, boolean storeToo) {
        Check.due(told + "names", box.about(8), plain.names.size());
        int k = 0;
        for (int value : plain.values.values()) {
            Check.due(told + "value of name " + k, box.name(k, 0), value);
            Check.due(told + "place of name " + k, box.name(k, 1), plain.names.get(k)[0]);
            Check.due(told + "kind of name " + k, box.name(k, 2), plain.names.get(k)[1]);
            k++;
        }
        if (storeToo) {
            StringBuilder bytes = new StringBuilder();
            for (int b : plain.image) {
                bytes.append((char) b);
            }
            Check.due(told + "store", Check.store(box).equals(bytes.toString()), true);
        }
    }

    private static <T> T one(Random random, T[] of) {
        return of[random.nextInt(of.length)];
    }

    private static String text(Random random) {
        StringBuilder text = new StringBuilder();
        boolean many = random.nextInt(12) == 0;
        for (int i = many ? 58 + random.nextInt(3) : 0; i > 0; i--) {
            text.append('m').append(i).append(":\n");
        }
        int lines = 1 + random.nextInt(8);
        for (int i = 0; i < lines; i++) {
            text.append(line(random)).append(i < lines - 1 || random.nextBoolean() ? "\n" : "");
        }
        for (int spoils = Math.max(0, random.nextInt(6) - 3); spoils > 0; spoils--) {
            spoil(random, text);
        }
        return text.toString();
    }

    /** A byte goes, or a piece comes. */
    private static void spoil(Random random, StringBuilder text) {
        int at = random.nextInt(text.length() + 1);
        if (random.nextBoolean() && at < text.length()) {
            text.deleteCharAt(at);
        } else {
            text.insert(at, one(random, PIECES));
        }
    }

    private static String blank(Random random) {
        return random.nextInt(6) == 0 ? "  " : "";
    }

    private static String line(Random random) {
        int kind = random.nextInt(10);
        if (kind == 0) {
            return one(random, NAMES) + blank(random) + "=" + blank(random) + sum(random);
        }
        String head = kind < 3 ? one(random, NAMES) + blank(random) + ":" : "";
        String remark = random.nextInt(8) == 0 ? ";x $ ' \377" : "";
        return head + blank(random) + word(random) + blank(random) + remark;
    }

    private static String word(Random random) {
        switch (random.nextInt(9)) {
            case 0: return "org " + (random.nextInt(4) == 0 ? sum(random) : Integer.toString(place(random)));
            case 1: return "space " + (random.nextInt(4) == 0 ? sum(random) : Integer.toString(random.nextInt(1500)));
            case 2: return (random.nextBoolean() ? "byte " : "word ") + list(random);
            case 3: return "text \"" + "ab;' $".substring(random.nextInt(7)) + "\"";
            case 4: return one(random, PlainAssembler.OWN_WORDS.toArray(new String[0]));
            case 5:
                int k = random.nextInt(16);
                String word = PlainAssembler.SHORT_WORDS.get(k == 11 ? 8 : k);
                boolean value = k == 12 || k > 13;
                return word + (value ? " #" + sum(random) : " ." + (random.nextBoolean() ? "+" : "-") + term(random));
            case 6: return "";
            default:
                int o = random.nextInt(32);
                return PlainAssembler.WAY_WORDS.get(o) + " " + way(random, random.nextInt(8));
        }
    }

    private static int place(Random random) {
        return random.nextBoolean() ? 4072 + random.nextInt(9) : random.nextInt(4080);
    }

    private static String way(Random random, int way) {
        String e = blank(random) + sum(random) + blank(random);
        String[] ways = {"#" + e, "<" + e, "<" + e + ",x", e, e + "," + blank(random) + "x", e + ",y", "(" + e + ")",
            "(" + e + ")" + blank(random) + ",y"};
        return ways[way];
    }

    private static String list(Random random) {
        StringBuilder list = new StringBuilder(sum(random));
        for (int i = random.nextInt(4); i > 0; i--) {
            list.append(blank(random)).append(',').append(sum(random));
        }
        return list.toString();
    }

    private static String sum(Random random) {
        StringBuilder sum = new StringBuilder(random.nextInt(8) == 0 ? "-" : "");
        sum.append(term(random));
        for (int i = Math.max(0, random.nextInt(5) - 2); i > 0; i--) {
            sum.append(blank(random)).append(random.nextBoolean() ? "+" : "-").append(blank(random));
            sum.append(term(random));
        }
        return sum.toString();
    }

    private static String term(Random random) {
        String part = random.nextInt(8) == 0 ? "%" : random.nextInt(8) == 0 ? "&" : "";
        switch (random.nextInt(5)) {
            case 0: return part + one(random, NUMBERS);
            case 1: return part + one(random, NAMES);
            default: return part + random.nextInt(130);
        }
    }
}
