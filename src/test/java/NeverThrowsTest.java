import java.util.Random;

/** Any calls with any arguments, and texts of random tokens and bytes: no call throws, and none fails to end. */
public final class NeverThrowsTest {
    private static final int[] EDGES = {0, 1, -1, 2, 3, 7, 15, 16, 20, 21, 36, 37, 63, 64, 199, 200, 255, 256, 257,
        299, 300, 511, 512, 1999, 2000, 2001, 4079, 4080, 4095, 4096, 5999, 6000, 6001, Integer.MAX_VALUE,
        Integer.MIN_VALUE, Integer.MIN_VALUE + 1};
    private static final String[] PIECES = {"lda ", "sta ", "jmp ", "beq ", "psh ", "nop", "org ", "space ", "byte ",
        "word ", "text ", "\"", "a", "b1", "name", "x", "y", "abcdefgh", "abcdefghi", ":", "=", ",", "#", "<", "(",
        ")", "+", "-", "%", "&", ".", ";", "'", "$", "$ff", "12", "99999", "4079", "\n", "\n", "\n", " ", "\t",
        "\0", "\377", "A", "~"};

    public static void main(String[] args) {
        for (int seed = 0; seed < 300; seed++) {
            anyCalls(new Random(seed));
            anyTexts(new Random(seed));
        }
        longTexts();
        Check.due("no call threw", true, true);
        Check.end();
    }

    private static int any(Random random) {
        int choice = random.nextInt(4);
        if (choice == 0) {
            return random.nextInt();
        }
        return choice == 1 ? random.nextInt(4200) - 50 : EDGES[random.nextInt(EDGES.length)];
    }

    private static void anyCalls(Random random) {
        BelfryBox box = new BelfryBox();
        for (int i = 0; i < 512; i++) {
            int a = any(random);
            int b = any(random);
            switch (random.nextInt(21)) {
                case 0: box.feed(a, b, random.nextInt(), random.nextInt(), random.nextInt()); break;
                case 1: box.end(a); break;
                case 2: box.assemble(); break;
                case 3: box.fault(a); break;
                case 4: box.name(a, b); break;
                case 5: box.restart(); break;
                case 6: box.peek(a); break;
                case 7: box.poke(a & 4095, b & 255); break;
                case 8: box.key(b & 255); break;
                case 9: box.drum(a, b); break;
                case 10: box.stop(a, random.nextBoolean()); break;
                case 11: box.run(1 + random.nextInt(2000)); break;
                case 12: box.back(random.nextInt(300)); break;
                case 13: box.register(a); break;
                case 14: box.device(a); break;
                case 15: box.about(a); break;
                case 16: box.codes(a); break;
                case 17: box.ring(a, b); break;
                case 18: box.strip(a); break;
                case 19: box.text(a); break;
                default: box.out(a); break;
            }
            wrongArguments(box, a, b);
        }
    }

    private static void wrongArguments(BelfryBox box, int a, int b) {
        boolean poked = box.poke(a, b);
        Check.due("poke " + a + " " + b, poked, a >= 0 && a < 4080 && b >= 0 && b < 256);
        if (a < 1 || a > 2000) {
            Check.due("run " + a, box.run(a), BelfryBox.NONE);
        }
        if (a < 1 || a > 256) {
            Check.due("back " + a, box.back(a), BelfryBox.NONE);
        }
        if (b < 0 || b > 255) {
            Check.due("key " + b, box.key(b), BelfryBox.NONE);
        }
    }

    private static void anyTexts(Random random) {
        BelfryBox box = new BelfryBox();
        for (int i = 0; i < 20; i++) {
            StringBuilder text = new StringBuilder();
            for (int k = random.nextInt(40); k > 0; k--) {
                text.append(PIECES[random.nextInt(PIECES.length)]);
            }
            int end = Check.assemble(box, text.toString());
            int fault = box.fault(0);
            Check.due("a fault or none", fault >= 0 && fault <= 6, true);
            Check.due("an address or none", end == BelfryBox.NONE ? fault != 0 : end >= 0 && end <= 4080, true);
            int place = box.fault(1);
            Check.due("a place", fault == 0 ? place == -1 : place >= 0 && place <= text.length(), true);
        }
    }

    private static void longTexts() {
        BelfryBox box = new BelfryBox();
        Check.due("6000 lines", Check.assemble(box, "\n".repeat(6000)), 0);
        Check.due("a long sum", Check.assemble(box, "byte 0" + "+0".repeat(2997)), 1);
        Check.due("a long list", Check.assemble(box, "byte 0" + ",1".repeat(2997)), 2998);
        Check.due("a long text", Check.assemble(box, "text \"" + "a".repeat(4080) + "\""), 4080);
        Check.due("a longer one", Check.assemble(box, "text \"" + "a".repeat(4081) + "\""), BelfryBox.NONE);
        Check.due("has no room", box.fault(0), 5);
        Check.due("a long name", Check.assemble(box, "a".repeat(6000)), BelfryBox.NONE);
        Check.due("at its ninth letter", box.fault(1), 8);
        Check.due("blanks", Check.assemble(box, " ".repeat(6000)), 0);
        Check.due("a missing e at the end of all", Check.assemble(box, "lda " + " ".repeat(5996)), BelfryBox.NONE);
        Check.due("at the text's length", box.fault(1), 6000);
    }
}
