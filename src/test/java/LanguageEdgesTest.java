/** Section IV at its edges, a sentence at a time: limits of tokens, numbers and ranges, and each fault's place. */
public final class LanguageEdgesTest {
    private static final int NONE = BelfryBox.NONE;

    public static void main(String[] args) {
        lines();
        longestTokens();
        blanks();
        remarks();
        nameLetters();
        nameNinth();
        namesThatAreWords();
        wordsInSmallLetters();
        wordForms();
        texts();
        numbers();
        hexadecimals();
        quoted();
        here();
        parts();
        sums();
        bytesLaid();
        org();
        space();
        nameValues();
        syntaxPlaces();
        syntaxAtMissingBytes();
        toldAlready();
        sixtyNames();
        notToldAhead();
        rangeOfOrgAndSpace();
        room();
        orderInALine();
        firstReadingFirst();
        toldNowhere();
        unknownAheadOfRange();
        rangeOfValues();
        rangeOfWords();
        rangeOfPageAndPointer();
        rangeOfAddresses();
        rangeOfBranches();
        text();
        Check.end();
    }

    private static void lines() {
        Check.sentence("LINES end by a byte 10, or with the text");
        Check.lays("");
        Check.lays("\n");
        Check.lays("byte 1", 1);
        Check.lays("byte 1\n", 1);
        Check.lays("byte 1\n\n\nbyte 2", 1, 2);
        Check.fails(1, "byte 1|\rbyte 2");
        Check.fails(1, "byte 1 |byte 2");
        Check.fails(1, "byte 1|\013");
    }

    private static void longestTokens() {
        Check.sentence("TOKENS are as long as they can be");
        Check.lays("nop1=5\nbyte nop1", 5);
        Check.lays("xx=5\nyx=6\nlda <xx,x\nlda yx,y", 2, 5, 5, 6, 0);
        Check.fails(1, "lda 5,|xy");
        Check.fails(1, "lda 5,|x1");
        Check.fails(1, "nopnop|");
        Check.fails(1, "ldax |5");
        Check.fails(1, "lda #12345|6");
        Check.fails(2, "lda #|a1b");
        Check.fails(1, "lda #1|a");
        Check.fails(1, "lda #$1|g");
        Check.fails(1, "byte 'a|a");
        Check.lays("org4=3\nbyte org4", 3);
        Check.lays("org 4\nbyte 1,1,1", 0, 0, 0, 0, 1, 1, 1);
    }

    private static void blanks() {
        Check.sentence("blanks (32) may stand between them");
        Check.lays("  a  :  lda  (  5  )  ,  y  ;  ", 7, 5);
        Check.lays(" b = - % 513 + & 514 - ' + 32 \n byte b", 0);
        Check.lays("lda(5),y", 7, 5);
        Check.lays("lda#'a", 0, 97);
        Check.lays("text\"a\";", 97);
        Check.lays(" ");
        Check.fails(1, "l |da #5");
        Check.fails(1, "lda #1 |2");
        Check.fails(1, "lda #$| 5");
        Check.fails(1, "lda #5|\t");
        Check.fails(1, "lda|\240#5");
        Check.fails(1, "lda|\0#5");
    }

    private static void remarks() {
        Check.sentence("[';' and any bytes but 10]");
        StringBuilder all = new StringBuilder("byte 1;");
        for (char b = 0; b < 256; b++) {
            if (b != 10) {
                all.append(b);
            }
        }
        Check.lays(all + "\nbyte 2;", 1, 2);
        Check.lays(";");
        Check.lays("a:;\nb=1;\nnop;;;", 216, 0);
        Check.fails(1, "a|;:");
        Check.fails(1, "lda |;5");
        Check.lays("text \";\";", 59);
        Check.lays("byte ';;", 59);
    }

    private static void nameLetters() {
        Check.sentence("name: a letter a .. z, then letters and digits, 8 in all");
        Check.lays("a=1\nz=2\na0=3\nz9=4\nabcdefgh=5\na1234567=6\nbyte a,z,a0,z9,abcdefgh,a1234567", 1, 2, 3, 4, 5, 6);
        Check.lays("abcdefgh=1\nabcdefgi=2\nabcdefg=3\nbyte abcdefgh,abcdefgi,abcdefg", 1, 2, 3);
        Check.fails(1, "|0a=1");
        Check.fails(1, "|A=1");
        Check.fails(1, "a|A=1");
        Check.fails(1, "|`=1");
        Check.fails(1, "|{=1");
        Check.fails(1, "a|_b=1");
        Check.fails(1, "|_=1");
    }

    private static void nameNinth() {
        Check.sentence("(SYNTAX at a ninth, wherever it stands)");
        Check.fails(1, "abcdefgh|i=1");
        Check.fails(1, "abcdefgh|i:");
        Check.fails(1, "a2345678|9=1");
        Check.fails(1, "lda #abcdefgh|i");
        Check.fails(1, "lda abcdefgh|ijklmn,x");
        Check.fails(1, "a = b + abcdefgh|i");
        Check.fails(1, "nop abcdefgh|i");
        Check.fails(1, "lda 5,xxxxxxxx|x");
        Check.fails(1, "a: abcdefgh|i:");
        Check.fails(1, "spacebyt|e 5");
        Check.lays(";abcdefghi");
        Check.lays("text \"abcdefghi\"", 97, 98, 99, 100, 101, 102, 103, 104, 105);
    }

    private static void namesThatAreWords() {
        Check.sentence("name: .. none of the words, nor x, y");
        for (String word : allWords()) {
            Check.fails(1, word + "|=1");
            Check.fails(1, "byte |" + word);
            Check.lays(word + "z=7\nbyte " + word + "z", 7);
            Check.lays("q" + word + "=7\nbyte q" + word, 7);
        }
        for (String letter : new String[] {"x", "y"}) {
            Check.fails(1, "|" + letter + "=1");
            Check.fails(1, "|" + letter + ":");
            Check.fails(1, "byte |" + letter);
            Check.fails(1, "a: |" + letter);
            Check.lays(letter + letter + "=7\nbyte " + letter + letter, 7);
        }
        Check.lays("own=7\nbyte own", 7);
    }

    private static String[] allWords() {
        StringBuilder all = new StringBuilder("org space byte word text");
        for (String word : PlainAssembler.WAY_WORDS) {
            all.append(' ').append(word);
        }
        for (String word : PlainAssembler.SHORT_WORDS) {
            all.append(word.equals("(own)") ? "" : " " + word);
        }
        for (String word : PlainAssembler.OWN_WORDS) {
            all.append(' ').append(word);
        }
        return all.toString().split(" ");
    }

    private static void wordsInSmallLetters() {
        Check.sentence("(all in small letters; those of o 0 .. 26, 28 .. 31, and OWN's)");
        Check.due("words", allWords().length, 5 + 32 + 15 + 32);
        for (String word : allWords()) {
            Check.fails(1, "|" + word.toUpperCase() + " 5");
            Check.fails(1, "q" + word + "|" + word.toUpperCase());
        }
        Check.fails(1, "own |5");
        Check.fails(1, "own|");
    }

    private static void wordForms() {
        Check.sentence("LDA .. ADY any | STA .. JSR any, but not '#' | BEQ .. BRA, DJX, DJY, CAL e | "
                + "PSH, TRP, IDL '#' e | NOP .. BCD");
        for (int o = 0; o < 32; o++) {
            String word = PlainAssembler.WAY_WORDS.get(o);
            if (o < 16) {
                Check.lays(word + " #5", 8 * o, 5);
            } else {
                Check.fails(1, word + " |#5");
            }
            Check.fails(1, word + "|");
            Check.fails(1, word + " <5,|y");
            Check.fails(1, word + " (5),|x");
            Check.fails(1, word + " (5|,x)");
            Check.fails(1, word + " 5,x|,y");
        }
        for (int k = 0; k < 16; k++) {
            String word = PlainAssembler.SHORT_WORDS.get(k);
            if (k == 12 || k == 14 || k == 15) {
                Check.lays(word + " #5", 128 + 8 * k, 5);
                Check.fails(1, word + " |5");
                Check.fails(1, word + " #5|,x");
            } else if (k != 11) {
                Check.lays(word + " 5", 128 + 8 * k, 3);
                Check.fails(1, word + " |#5");
                Check.fails(1, word + " |<5");
                Check.fails(1, word + " |(5)");
                Check.fails(1, word + " 5|,x");
            }
        }
        for (int b = 0; b < 32; b++) {
            Check.lays(PlainAssembler.OWN_WORDS.get(b), 216, b);
            Check.fails(1, PlainAssembler.OWN_WORDS.get(b) + " |5");
        }
    }

    private static void texts() {
        Check.sentence("'text' '\"' bytes 32 .. 126 but \" and '\"'");
        StringBuilder all = new StringBuilder();
        for (char b = 32; b <= 126; b++) {
            all.append(b == '"' ? "" : b);
        }
        int[] bytes = new int[all.length()];
        for (int i = 0; i < bytes.length; i++) {
            bytes[i] = all.charAt(i);
        }
        Check.due("all but one", bytes.length, 94);
        Check.lays("text \"" + all + "\"", bytes);
        Check.lays("text \"\"");
        Check.fails(1, "text \"a|\037\"");
        Check.fails(1, "text \"a|\177\"");
        Check.fails(1, "text \"a|\377\"");
        Check.fails(1, "text \"a|\n\"");
        Check.fails(1, "text \"a|");
        Check.fails(1, "text \"|");
        Check.fails(1, "text |a\"");
        Check.fails(1, "text \"a\"|\"");
        Check.fails(1, "text \"a\"|,\"b\"");
    }

    private static void numbers() {
        Check.sentence("1 to 5 digits");
        Check.lays("byte 0,9,00000,00009,00255", 0, 9, 0, 9, 255);
        Check.lays("word 65535,99999-99998", 255, 255, 1, 0);
        Check.lays("a=99999\nword a-65536", 159, 134);
        Check.fails(1, "byte 00000|0");
        Check.fails(1, "word 10000|0");
        Check.fails(1, "byte |/");
        Check.fails(1, "byte 1|:");
    }

    private static void hexadecimals() {
        Check.sentence("'$' and 1 to 4 digits 0 .. 9, a .. f");
        Check.lays("word $0,$f,$ff,$fff,$ffff,$0000,$09af", 0, 0, 15, 0, 255, 0, 255, 15, 255, 255, 0, 0, 175, 9);
        Check.fails(1, "word $0000|0");
        Check.fails(1, "word $ffff|f");
        Check.fails(1, "word $|");
        Check.fails(1, "word $|;");
        Check.fails(1, "word $|g");
        Check.fails(1, "word $|A");
        Check.fails(1, "word $|/");
        Check.fails(1, "word $|`");
        Check.fails(1, "word $f|F");
        Check.fails(1, "word f|$");
    }

    private static void quoted() {
        Check.sentence("''' and a byte 32 .. 126");
        for (char b = 32; b <= 126; b++) {
            Check.lays("byte '" + b, b);
        }
        Check.lays("byte '','+,'-+1,' +1", 39, 43, 46, 33);
        Check.fails(1, "byte '|");
        Check.fails(1, "byte '|\n");
        Check.fails(1, "byte '|\037");
        Check.fails(1, "byte '|\177");
        Check.fails(1, "byte '|\200");
        Check.fails(1, "byte '|\0");
        Check.fails(1, "byte 'a|'");
    }

    private static void here() {
        Check.sentence("'.' (the address at which the line begins)");
        Check.lays("byte 9,.,.,.", 9, 0, 0, 0);
        Check.lays("byte 9\nword .,.\nbyte .", 9, 1, 0, 1, 0, 5);
        Check.lays("byte 9\norg .+2\nbyte .", 9, 0, 0, 3);
        Check.lays("byte 9\nspace .+1\nbyte .", 9, 0, 0, 3);
        Check.lays("byte 9\na=.\nbyte a", 9, 1);
        Check.lays("a: byte 9\nb: lda .\njmp b", 9, 3, 1, 0, 243, 1, 0);
        BelfryBox box = new BelfryBox();
        Check.assemble(box, "space 4080\na=.");
        Check.due("behind the last byte", box.name(0, 0), 4080);
    }

    private static void parts() {
        Check.sentence("'%' (of what is behind it the bits 8 .. 15) | '&' (the bits 0 .. 7)");
        Check.lays("byte %0,%255,%256,%65535,%65536,%99999", 0, 0, 1, 255, 0, 134);
        Check.lays("byte &0,&255,&256,&65535,&65536,&99999", 0, 255, 0, 255, 0, 159);
        Check.lays("byte %$1234,&$1234,%'a,&'a", 0x12, 0x34, 0, 97);
        Check.lays("a=-1\nb=-32769\nbyte %a,&a,%b,&b", 255, 255, 127, 255);
        Check.lays("org 3\na:\norg 0\nbyte %.,&.,&a", 0, 0, 3);
        Check.lays("byte %256+1,1+%256,-&257,&257-%512", 2, 2, 255, 255);
        Check.fails(1, "byte %|-1");
        Check.fails(1, "byte %|&1");
        Check.fails(1, "byte &|");
        Check.fails(1, "byte -|-1");
        Check.fails(1, "byte |+1");
        Check.fails(1, "byte 1|%1");
    }

    private static String doubled(int first, int times) {
        StringBuilder text = new StringBuilder("a0=" + first + "\n");
        for (int i = 1; i <= times; i++) {
            text.append('a').append(i).append("=a").append(i - 1).append("+a").append(i - 1).append('\n');
        }
        return text.toString();
    }

    private static void sums() {
        Check.sentence("Sums go round in 32 bits");
        BelfryBox box = new BelfryBox();
        Check.assemble(box, doubled(1, 32) + "b=a31-1\nc=-a31\nd=a31+a31\ne=b+1\nf=-b-1\ng=-b-2");
        Check.due("2^30", box.name(30, 0), 1 << 30);
        Check.due("2^31", box.name(31, 0), Integer.MIN_VALUE);
        Check.due("2^32", box.name(32, 0), 0);
        Check.due("the least, and one less", box.name(33, 0), Integer.MAX_VALUE);
        Check.due("the least turned round", box.name(34, 0), Integer.MIN_VALUE);
        Check.due("twice the least", box.name(35, 0), 0);
        Check.due("the greatest, and one more", box.name(36, 0), Integer.MIN_VALUE);
        Check.due("the greatest turned round, and one less", box.name(37, 0), Integer.MIN_VALUE);
        Check.due("and two less", box.name(38, 0), Integer.MAX_VALUE);
        Check.lays(doubled(1, 31) + "byte a31+5+a31", 5);
        Check.lays(doubled(1, 31) + "org a31+a31+2\nbyte 1", 0, 0, 1);
        Check.lays(doubled(1, 31) + "byte %a31,&a31", 0, 0);
        Check.fails(4, doubled(1, 31) + "byte |a31");
        Check.fails(4, doubled(1, 31) + "byte |a31-1");
        Check.fails(4, doubled(1, 31) + "bra |a31");
        Check.fails(4, doubled(1, 31) + "bra |a31-1");
    }

    private static void bytesLaid() {
        Check.sentence("Lines are laid one behind the other, from 0 on, a code with what stands behind it (WORDS "
                + "lower byte first)");
        Check.lays("lda $1234\nlda $1234,x\nlda $1234,y\nword $1234", 3, 0x34, 0x12, 4, 0x34, 0x12, 5, 0x34, 0x12,
                0x34, 0x12);
        Check.lays("nop\nbyte 1\nlda <2\nlda (3),y", 216, 0, 1, 1, 2, 7, 3);
        BelfryBox box = new BelfryBox();
        Check.due("up to the last byte", Check.assemble(box, "org 4077\nlda $1234"), 4080);
        Check.due("the last byte", box.peek(4079), 0x12);
        Check.due("what is laid later counts", Check.assemble(box, "byte 1,2,3\norg 1\nbyte 9"), 2);
        Check.due("byte 0", box.peek(0), 1);
        Check.due("byte 1", box.peek(1), 9);
        Check.due("byte 2", box.peek(2), 3);
        Check.due("the STORE has 0 else", box.peek(4079), 0);
    }

    private static void org() {
        Check.sentence("org goes to e");
        BelfryBox box = new BelfryBox();
        Check.due("org 0", Check.assemble(box, "byte 1\norg 0"), 0);
        Check.due("org 4079", Check.assemble(box, "org 4079"), 4079);
        Check.due("behind it", Check.assemble(box, "org 4079\nbyte 1"), 4080);
        Check.due("and back", Check.assemble(box, "org 4079\nbyte 1\norg 3\nbyte 2"), 4);
        Check.due("both are laid", box.peek(4079) * 10 + box.peek(3), 12);
    }

    private static void space() {
        Check.sentence("space leaves e BYTES as they are (0, where nothing was laid)");
        Check.lays("space 0\nbyte 1", 1);
        Check.lays("space 2\nbyte 1", 0, 0, 1);
        Check.lays("byte 1,2,3\norg 0\nspace 2\nbyte 9", 1, 2, 9);
        BelfryBox box = new BelfryBox();
        box.poke(5, 77);
        Check.due("space 4080", Check.assemble(box, "space 4080"), 4080);
        Check.due("what was poked is no more", box.peek(5), 0);
        Check.due("space 0 at 4080", Check.assemble(box, "space 4080\nspace 0\na:"), 4080);
    }

    private static void nameValues() {
        Check.sentence("A name ahead of : has the address at which its line begins (of org: where it goes), one "
                + "ahead of = its e");
        BelfryBox box = new BelfryBox();
        Check.assemble(box, "byte 1\na:\nb: byte 2\nc: org 100\nd: space 5\ne: nop\nf=-7\ng: org 0\nh: org 4079\n"
                + "i: byte 1\nj:");
        int[] due = {1, 1, 100, 100, 105, -7, 0, 4079, 4079, 4080};
        for (int k = 0; k < due.length; k++) {
            Check.due("name " + k, box.name(k, 0), due[k]);
            Check.due("kind of name " + k, box.name(k, 2), k == 5 ? 1 : 0);
        }
    }

    private static void syntaxPlaces() {
        Check.sentence("1 SYNTAX: the first TOKEN (or byte that begins or continues none) with which no line goes on, "
                + "at its first byte");
        for (String text : new String[] {"|5", "|:", "|=", "|,", "|#5", "|'a", "|$5", "|\"a\"", "|.", "|?", "|\0",
            "a |nop", "a |5", "a |.", "a: |b", "a: |5", "a:|:", "a:|=5", "a=|=5", "a=|:", "a=5|:", "a=5 |nop",
            "nop |nop", "nop|:", "nop |a", "nop|,", "org |#5", "org |(5)", "org |<5", "org 5|,5", "space |nop",
            "byte |,", "byte 1,|,", "byte 1|.", "word |\"a\"", "text |'a", "lda |)", "lda (|)", "lda #|#5",
            "lda <|<5", "lda (5)|)", "lda 5|)", "lda (5),|5", "lda 5+|+5", "lda 5 |a", "lda 5|$5", "lda 5|'a",
            "nop\n\n  |?", "nop |\"a\"", "nop |$5"}) {
            Check.fails(1, text);
        }
    }

    private static void syntaxAtMissingBytes() {
        Check.sentence("(of a missing byte at what is there; the text's end: its length)");
        for (String text : new String[] {"a|", "a  |", "a|\nnop", "a |;", "a=|", "a= |\n", "lda|", "lda |", "lda|\n",
            "lda #|", "lda <|;", "lda (|", "lda (5|", "lda (5|\n", "lda 5,|", "lda (5),|", "lda 5+|", "lda 5-|\n",
            "lda %|", "lda -|", "org|", "org |\n", "space|", "byte|", "byte 1,|", "byte 1, |\nnop", "word 1,|;",
            "text|", "text |\n", "text \"|", "text \"ab|", "text \"ab |\n", "psh|", "psh #|", "beq|", "byte '|",
            "byte $|", "byte $|\n", "byte 1,$|,2", "byte 1,'|\n"}) {
            Check.fails(1, text);
        }
        Check.sentence("a TAPE of 6000 bytes: the text's end: its length");
        Check.fails(1, "lda" + " ".repeat(5997) + "|");
        for (String text : new String[] {"lda", "a", "text \"", "text \"a", "byte '", "byte $", "byte 5+", "byte 5,",
            "lda (5", "lda 5,", "psh", "a=", "lda %"}) {
            Check.fails(1, "\n".repeat(6000 - text.length()) + text + "|");
        }
        for (String text : new String[] {"byte 5", "byte 'a", "byte $5", "byte .", "text \"a\"", "a:byte 1",
            "byte 1;"}) {
            BelfryBox box = new BelfryBox();
            String all = "\n".repeat(6000 - text.length()) + text;
            Check.due("6000 bytes with " + text, Check.assemble(box, all), 1);
        }
    }

    private static void toldAlready() {
        Check.sentence("3 the line's name was told already");
        Check.fails(3, "a=1\n|a=1");
        Check.fails(3, "a=1\n|a:");
        Check.fails(3, "a:\n  |a: nop");
        Check.fails(3, "a:\nb:\nc:\n|b=a");
        Check.fails(3, "abcdefgh=1\n|abcdefgh=2");
        Check.lays("abcdefgh=1\nabcdefg=2\nabcdefgi=3\nbyte abcdefgh", 1);
    }

    private static String names(int count) {
        StringBuilder text = new StringBuilder();
        for (int i = 0; i < count; i++) {
            text.append('n').append(i).append(i % 2 == 0 ? ":\n" : "=" + i + "\n");
        }
        return text.toString();
    }

    private static void sixtyNames() {
        Check.sentence("6 it would be a 61st (at it)");
        BelfryBox box = new BelfryBox();
        Check.due("60 names", Check.assemble(box, names(60) + "byte n59"), 1);
        Check.due("about(8)", box.about(8), 60);
        Check.due("the last one", box.name(59, 0), 59);
        Check.due("none behind it", box.name(60, 1), 0);
        Check.fails(6, names(60) + " |more=1");
        Check.fails(6, names(60) + "|more: byte 1");
        Check.fails(3, names(60) + "|n0=1");
        Check.fails(6, names(60) + "|more=none");
        Check.fails(6, names(60) + "|more: org 5000");
        Check.fails(1, names(60) + "more=|");
    }

    private static void notToldAhead() {
        Check.sentence("2 a name in the e of org, space, = that was not told ahead of this line (the first one)");
        Check.fails(2, "org |a\na=5");
        Check.fails(2, "space |a\na=5");
        Check.fails(2, "b=|a\na=5");
        Check.fails(2, "a=|a");
        Check.fails(2, "a: org |a");
        Check.fails(2, "a: space |a");
        Check.fails(2, "c=1\nb=c+|d+e");
        Check.fails(2, "org 5000+%|d");
        Check.fails(2, "space -|d");
        Check.lays("byte a\na=5", 5);
        Check.lays("a=2\norg a\nbyte 1", 0, 0, 1);
        Check.lays("a: byte 1\nspace a+1\nbyte 2", 1, 0, 2);
    }

    private static void rangeOfOrgAndSpace() {
        Check.sentence("4 RANGE (at the e's first byte): org 0 .. 4079, space 0 .. 4080");
        Check.fails(4, "org |-1");
        Check.fails(4, "org  |4080");
        Check.fails(4, "org |4079+1");
        Check.fails(4, "org |0-1");
        Check.fails(4, "org |%256-2");
        Check.fails(4, "space |-1");
        Check.fails(4, "space |4081");
        Check.fails(4, "a=4081\nspace |a");
        BelfryBox box = new BelfryBox();
        Check.due("org 0", Check.assemble(box, "org 0"), 0);
        Check.due("org 4079", Check.assemble(box, "org 4079"), 4079);
        Check.due("space 0", Check.assemble(box, "space 0"), 0);
        Check.due("space 4080", Check.assemble(box, "space 4080"), 4080);
        Check.due("= has no range", Check.assemble(box, "a=-99999\nb=99999+99999"), 0);
        Check.due("its value", box.name(1, 0), 199998);
    }

    private static void room() {
        Check.sentence("5 ROOM: the line would go beyond 4079 (at its word)");
        String[] two = {"nop", "lda #1", "lda <1", "lda <1,x", "lda (1)", "lda (1),y", "bra .", "psh #1", "cal .",
            "byte 1,2", "word 1", "text \"ab\"", "space 2"};
        for (String word : two) {
            Check.fails(5, "org 4079\n|" + word);
            Check.fails(5, "org 4079\na : |" + word);
            Check.due(word + " at 4078", Check.assemble(new BelfryBox(), "org 4078\n" + word), 4080);
        }
        String[] three = {"lda 1", "lda 1,x", "lda 1,y", "byte 1,2,3", "text \"abc\"", "space 3"};
        for (String word : three) {
            Check.fails(5, "org 4078\n|" + word);
            Check.due(word + " at 4077", Check.assemble(new BelfryBox(), "org 4077\n" + word), 4080);
        }
        Check.fails(5, "space 4080\n|byte 1");
        Check.fails(5, "byte 1\n|space 4080");
        Check.fails(5, "|text \"" + "a".repeat(4081) + "\"");
        String none = "space 4080\ntext \"\"\nspace 0\na:\n;\nb=.\norg 5";
        Check.due("lines at 4080 that lay nothing", Check.assemble(new BelfryBox(), none), 5);
    }

    private static void orderInALine() {
        Check.sentence("in it the first of: 1, 3, 6, 2, 4, 5");
        Check.fails(1, "a=1\na: org b |?");
        Check.fails(3, "a=1\n|a: org b");
        Check.fails(3, "a=1\n|a: org 5000");
        Check.fails(3, "org 4079\na=1\n|a: nop");
        Check.fails(6, names(60) + "|b: org c");
        Check.fails(2, "org 5000+|b");
        Check.fails(2, "org 4079\nspace |b+5000");
        Check.fails(4, "org 4079\nspace |5000");
        Check.fails(5, "org 4079\n|space 4080");
        Check.fails(5, "org 4079\n|word none");
        Check.fails(5, "org 4079\n|byte 999,999");
    }

    private static void firstReadingFirst() {
        Check.sentence("By the first reading, the first line that has one; if there is none, by the second reading "
                + "likewise");
        Check.fails(1, "byte none\nbyte 999\n|?");
        Check.fails(3, "byte none\na:\n|a:");
        Check.fails(2, "byte none\norg |a\na=1");
        Check.fails(4, "byte none\norg |4080");
        Check.fails(5, "byte none\norg 4079\n|nop");
        Check.fails(6, "byte none\n" + names(60) + "|a=1");
        Check.fails(4, "org |4080\n?");
        Check.fails(2, "org |b\na=\n");
        Check.fails(5, "org 4079\n|nop\n?");
        Check.fails(4, "byte |999\nbyte none");
        Check.fails(2, "byte |none\nbyte 999");
        Check.fails(4, "nop\nbyte |256\nbyte 999");
    }

    private static void toldNowhere() {
        Check.sentence("2 a name that is told nowhere (the first one)");
        for (String text : new String[] {"byte |a", "byte 1,|a,b", "word 1+|a", "lda #|a", "lda <|a", "lda <|a,x",
            "lda |a", "lda |a,x", "lda |a,y", "lda (|a)", "lda (|a),y", "sta |a", "beq |a", "cal .+|a", "psh #-|a",
            "b=1\nbyte b,%|a", "c: lda &|b+d"}) {
            Check.fails(2, text);
        }
        Check.lays("byte a\na=7", 7);
        Check.lays("bra a\na:", 192, 0);
        Check.lays("a: byte a", 0);
    }

    private static void unknownAheadOfRange() {
        Check.sentence("2 a name that is told nowhere; then 4 the first e out of RANGE (at its first byte)");
        Check.fails(2, "byte 999,|a");
        Check.fails(2, "word 99999,999,|a");
        Check.fails(4, "byte 1,|256,999");
        Check.fails(4, "byte 1,  |-129");
        Check.fails(4, "byte 1,|1+255");
        Check.fails(4, "lda #|%1+256");
        Check.fails(4, "lda ( |256 )");
    }

    private static void rangeOfValues() {
        Check.sentence("of # and byte -128 .. 255 (its lowest 8 bits count)");
        Check.lays("byte -128,-127,-1,0,127,128,255", 128, 129, 255, 0, 127, 128, 255);
        Check.fails(4, "byte |-129");
        Check.fails(4, "byte |256");
        for (int o = 0; o < 16; o++) {
            String word = PlainAssembler.WAY_WORDS.get(o);
            Check.lays(word + " #-128\n" + word + " #255", 8 * o, 128, 8 * o, 255);
            Check.fails(4, word + " #|-129");
            Check.fails(4, word + " #|256");
        }
        for (String word : new String[] {"psh", "trp", "idl"}) {
            int code = 128 + 8 * PlainAssembler.SHORT_WORDS.indexOf(word);
            Check.lays(word + " #-128\n" + word + " #255", code, 128, code, 255);
            Check.fails(4, word + " #|-129");
            Check.fails(4, word + " #|256");
        }
    }

    private static void rangeOfWords() {
        Check.sentence("of word -32768 .. 65535");
        Check.lays("word -32768,-1,65535,32768", 0, 128, 255, 255, 255, 255, 0, 128);
        Check.fails(4, "word |-32769");
        Check.fails(4, "word |65536");
        Check.fails(4, "word 1,|65536,-32769");
    }

    private static void rangeOfPageAndPointer() {
        Check.sentence("of < and ( ) 0 .. 255");
        for (String[] way : new String[][] {{"<", "", "1"}, {"<", ",x", "2"}, {"(", ")", "6"}, {"(", "),y", "7"}}) {
            int code = Integer.parseInt(way[2]);
            Check.lays("lda " + way[0] + "0" + way[1], code, 0);
            Check.lays("lda " + way[0] + "255" + way[1], code, 255);
            Check.fails(4, "lda " + way[0] + "|-1" + way[1]);
            Check.fails(4, "lda " + way[0] + "|256" + way[1]);
            Check.fails(4, "jsr " + way[0] + "|256" + way[1]);
        }
    }

    private static void rangeOfAddresses() {
        Check.sentence("of other ways 0 .. 65535");
        for (String[] way : new String[][] {{"", "3"}, {",x", "4"}, {",y", "5"}}) {
            int code = Integer.parseInt(way[1]);
            Check.lays("lda 0" + way[0], code, 0, 0);
            Check.lays("lda 65535" + way[0], code, 255, 255);
            Check.lays("jmp 4096" + way[0], 240 + code, 0, 16);
            Check.fails(4, "lda |-1" + way[0]);
            Check.fails(4, "lda |65536" + way[0]);
            Check.fails(4, "jmp |65536" + way[0]);
        }
    }

    private static void rangeOfBranches() {
        Check.sentence("of branches and CAL the e less the address behind the code -128 .. 127");
        for (int k = 0; k < 14; k++) {
            String word = PlainAssembler.SHORT_WORDS.get(k);
            if (k != 11 && k != 12) {
                int code = 128 + 8 * k;
                Check.lays(word + " 129", code, 127);
                Check.fails(4, word + " |130");
                Check.lays("nop\n" + word + " 131", 216, 0, code, 127);
                Check.fails(4, "nop\n" + word + " |132");
                Check.lays(word + " -126", code, 128);
                Check.fails(4, word + " |-127");
                Check.lays("nop\n" + word + " .-126", 216, 0, code, 128);
                Check.fails(4, "nop\n" + word + " |.-127");
            }
        }
        Check.due("beyond the ports", Check.assemble(new BelfryBox(), "org 4078\nbra 4207"), 4080);
        Check.fails(4, "org 4078\nbra |4208");
        Check.fails(4, "org 4078\nbra |0");
    }

    private static void tells(String due, int bytes, int... code) {
        BelfryBox box = new BelfryBox();
        for (int i = 0; i < code.length; i++) {
            box.poke(700 + i, code[i]);
        }
        Check.due("bytes of " + due, box.text(700), bytes);
        Check.due("text", Check.out(box), due);
    }

    private static void text() {
        Check.sentence("THE TEXT: its word; what stands behind it, if anything, behind one blank, as above without "
                + "blanks: numbers in decimals without needless zeros");
        tells("lda #0", 2, 0, 0);
        tells("lda #9", 2, 0, 9);
        tells("lda #10", 2, 0, 10);
        tells("lda #99", 2, 0, 99);
        tells("lda #100", 2, 0, 100);
        tells("lda #255", 2, 0, 255);
        tells("lda 0", 3, 3, 0, 0);
        tells("lda 999", 3, 3, 231, 3);
        tells("lda 1000", 3, 3, 232, 3);
        tells("lda 9999", 3, 3, 15, 39);
        tells("lda 10000", 3, 3, 16, 39);
        tells("lda 65535", 3, 3, 255, 255);
        tells("jsr 65535,y", 3, 253, 255, 255);
        tells("lda <0,x", 2, 2, 0);
        tells("lda <255", 2, 1, 255);
        tells("lda (255)", 2, 6, 255);
        tells("lda (0),y", 2, 7, 0);
        tells("psh #0", 2, 224, 0);
        tells("trp #128", 2, 240, 128);
        tells("idl #255", 2, 248, 255);
        tells("nop", 2, 216, 0);
        Check.sentence("THE TEXT: of branches and CAL '.', + or -, and the number that it takes (.+0 too)");
        tells("beq .+2", 2, 128, 0);
        tells("beq .+129", 2, 128, 127);
        tells("beq .-126", 2, 128, 128);
        tells("beq .-1", 2, 128, 253);
        tells("beq .+0", 2, 128, 254);
        tells("cal .+1", 2, 232, 255);
        Check.sentence("THE TEXT: of OWN above 31: byte 216,b");
        tells("bcd", 2, 216, 31);
        tells("byte 216,32", 2, 216, 32);
        tells("byte 216,100", 2, 216, 100);
        tells("byte 216,255", 2, 216, 255);
    }
}
