import java.nio.charset.StandardCharsets;

/** What the tests share: answers that are due, and texts brought to a box. */
final class Check {
    private static int wrong = 0;
    private static int looked = 0;
    private static String sentence = "";

    private Check() {
    }

    /** The document's words that the next answers are held against; they are told with an answer that is wrong. */
    static void sentence(String words) {
        sentence = "«" + words + "»: ";
    }

    static void due(String what, long got, long want) {
        looked++;
        if (got != want) {
            wrong++;
            System.out.println(sentence + what + " answered " + got + ", due is " + want);
        }
    }

    static void due(String what, boolean got, boolean want) {
        due(what, got ? 1L : 0L, want ? 1L : 0L);
    }

    static void due(String what, String got, String want) {
        looked++;
        if (!got.equals(want)) {
            wrong++;
            System.out.println(sentence + what + " answered «" + got + "», due is «" + want + "»");
        }
    }

    /** Ends a test, with exit code 1 if an answer was not as due. */
    static void end() {
        System.out.println(looked + " answers, " + wrong + " of them not as due");
        if (wrong != 0) {
            System.exit(1);
        }
    }

    /** The text comes behind the tape; characters 0 to 255 are bytes. */
    static void feed(BelfryBox box, String text) {
        byte[] bytes = text.getBytes(StandardCharsets.ISO_8859_1);
        int before = box.about(10);
        for (int i = 0; i < bytes.length; i += 20) {
            int[] five = new int[5];
            for (int k = 0; k < 20; k++) {
                int b = i + k < bytes.length ? bytes[i + k] & 255 : 0;
                five[k / 4] = five[k / 4] << 8 | b;
            }
            box.feed(five[0], five[1], five[2], five[3], five[4]);
        }
        due("end behind a text", box.end(before + bytes.length), before + bytes.length);
    }

    static int assemble(BelfryBox box, String text) {
        feed(box, text);
        return box.assemble();
    }

    /** The text lays these bytes from 0 on, and the address behind it is behind them. */
    static void lays(String text, int... bytes) {
        BelfryBox box = new BelfryBox();
        String told = text.replace('\n', '/');
        due("assemble " + told, assemble(box, text), bytes.length);
        due("fault 0 of " + told, box.fault(0), 0);
        due("fault 1 of " + told, box.fault(1), BelfryBox.NONE);
        due("fault 2 of " + told, box.fault(2), BelfryBox.NONE);
        due("fault -1 of " + told, box.fault(-1), BelfryBox.NONE);
        for (int i = 0; i < bytes.length; i++) {
            due("byte " + i + " of " + told, box.peek(i), bytes[i]);
        }
    }

    /** The text has this fault at the place of | in it. */
    static void fails(int fault, String marked) {
        int place = marked.indexOf('|');
        String text = marked.substring(0, place) + marked.substring(place + 1);
        BelfryBox box = new BelfryBox();
        String told = marked.replace('\n', '/');
        due("assemble " + told, assemble(box, text), BelfryBox.NONE);
        due("fault of " + told, box.fault(0), fault);
        due("place in " + told, box.fault(1), place);
        due("fault 2 of " + told, box.fault(2), BelfryBox.NONE);
    }

    /** A box with a program from 512 on, where it starts; interrupts go to 1024, traps to 768. */
    static BelfryBox program(String lines) {
        BelfryBox box = new BelfryBox();
        int end = assemble(box, "org 4074\nword 768,1024,512\norg 512\n" + lines);
        if (end == BelfryBox.NONE) {
            due("fault of " + lines.replace('\n', '/') + " at " + box.fault(1), box.fault(0), 0);
        }
        return box;
    }

    /** A box that has done the first steps of such a program. */
    static BelfryBox ran(int steps, String lines) {
        BelfryBox box = program(lines);
        due("steps of " + lines.replace('\n', '/'), box.run(steps), steps);
        return box;
    }

    /** Runs all lines but the last with no look at cycles, then the last: A, X, Y, F (I is 1), and its cycles. */
    static BelfryBox does(String lines, int a, int x, int y, int f, int cycles) {
        int count = lines.split("\n").length;
        BelfryBox box = count > 1 ? ran(count - 1, lines) : program(lines);
        String told = lines.replace('\n', '/');
        int before = box.register(7);
        box.run(1);
        due("A of " + told, box.register(0), a);
        due("X of " + told, box.register(1), x);
        due("Y of " + told, box.register(2), y);
        due("F of " + told, box.register(5), f + 4);
        due("cycles of " + told, box.register(7) - before, cycles);
        return box;
    }

    static String out(BelfryBox box) {
        StringBuilder letters = new StringBuilder();
        for (int i = 0; box.out(i) != BelfryBox.NONE; i++) {
            letters.append((char) box.out(i));
        }
        return letters.toString();
    }

    /** All that can be asked of the machine, but its store: two boxes with the same are in the same state. */
    static String state(BelfryBox box) {
        StringBuilder all = new StringBuilder();
        for (int i = 0; i < 8; i++) {
            all.append(" r").append(i).append('=').append(box.register(i));
        }
        for (int i = 0; i < 37; i++) {
            all.append(" d").append(i).append('=').append(box.device(i));
        }
        for (int i = 3; i < 8; i++) {
            all.append(" a").append(i).append('=').append(box.about(i));
        }
        for (int i = 0; i <= 256; i++) {
            if (box.codes(i) != 0) {
                all.append(" c").append(i).append('=').append(box.codes(i));
            }
        }
        for (int i = 0; i < box.about(6); i++) {
            all.append(" ring=").append(box.ring(i, 0)).append(':').append(box.ring(i, 1)).append(':')
                    .append(box.ring(i, 2));
        }
        for (int i = 0; i < box.about(7); i++) {
            all.append(" s=").append(box.strip(i));
        }
        return all.toString();
    }

    /** All that can be asked of a box: a call that does nothing leaves it. */
    static String whole(BelfryBox box) {
        StringBuilder all = new StringBuilder(state(box));
        for (int i = 0; i <= 10; i++) {
            all.append(" about").append(i).append('=').append(box.about(i));
        }
        for (int k = 0; k < box.about(8); k++) {
            all.append(" name=").append(box.name(k, 0)).append(':').append(box.name(k, 1)).append(':')
                    .append(box.name(k, 2));
        }
        all.append(" fault=").append(box.fault(0)).append(':').append(box.fault(1));
        all.append(" out=").append(out(box));
        return all.append(" store=").append(store(box).hashCode()).toString();
    }

    static String store(BelfryBox box) {
        StringBuilder all = new StringBuilder();
        for (int a = 0; a < 4096; a++) {
            all.append((char) box.peek(a));
        }
        return all.toString();
    }
}
