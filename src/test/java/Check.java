import java.nio.charset.StandardCharsets;

/** What the tests share: answers that are due, and texts brought to a box. */
final class Check {
    private static int wrong = 0;
    private static int looked = 0;

    private Check() {
    }

    static void due(String what, long got, long want) {
        looked++;
        if (got != want) {
            wrong++;
            System.out.println(what + " answered " + got + ", due is " + want);
        }
    }

    static void due(String what, boolean got, boolean want) {
        due(what, got ? 1L : 0L, want ? 1L : 0L);
    }

    static void due(String what, String got, String want) {
        looked++;
        if (!got.equals(want)) {
            wrong++;
            System.out.println(what + " answered «" + got + "», due is «" + want + "»");
        }
    }

    /** Ends a test, with exit code 1 if an answer was not as due. */
    static void end() {
        System.out.println(looked + " answers, " + wrong + " of them not as due");
        if (wrong != 0) {
            System.exit(1);
        }
    }

    /** The text comes behind the tape; characters 0 to 255 are bytes. */
    static void feed(BelfryBox box, String text) {
        byte[] bytes = text.getBytes(StandardCharsets.ISO_8859_1);
        int before = box.about(10);
        for (int i = 0; i < bytes.length; i += 20) {
            int[] five = new int[5];
            for (int k = 0; k < 20; k++) {
                int b = i + k < bytes.length ? bytes[i + k] & 255 : 0;
                five[k / 4] = five[k / 4] << 8 | b;
            }
            box.feed(five[0], five[1], five[2], five[3], five[4]);
        }
        due("end behind a text", box.end(before + bytes.length), before + bytes.length);
    }

    static int assemble(BelfryBox box, String text) {
        feed(box, text);
        return box.assemble();
    }

    /** A box with a program from 512 on, where it starts; interrupts go to 1024, traps to 768. */
    static BelfryBox program(String lines) {
        BelfryBox box = new BelfryBox();
        int end = assemble(box, "org 4074\nword 768,1024,512\norg 512\n" + lines);
        if (end == BelfryBox.NONE) {
            due("fault of " + lines.replace('\n', '/') + " at " + box.fault(1), box.fault(0), 0);
        }
        return box;
    }

    static String out(BelfryBox box) {
        StringBuilder letters = new StringBuilder();
        for (int i = 0; box.out(i) != BelfryBox.NONE; i++) {
            letters.append((char) box.out(i));
        }
        return letters.toString();
    }

    /** All that can be asked of the machine, but its store: two boxes with the same are in the same state. */
    static String state(BelfryBox box) {
        StringBuilder all = new StringBuilder();
        for (int i = 0; i < 8; i++) {
            all.append(" r").append(i).append('=').append(box.register(i));
        }
        for (int i = 0; i < 37; i++) {
            all.append(" d").append(i).append('=').append(box.device(i));
        }
        for (int i = 3; i < 8; i++) {
            all.append(" a").append(i).append('=').append(box.about(i));
        }
        for (int i = 0; i <= 256; i++) {
            if (box.codes(i) != 0) {
                all.append(" c").append(i).append('=').append(box.codes(i));
            }
        }
        for (int i = 0; i < box.about(6); i++) {
            all.append(" ring=").append(box.ring(i, 0)).append(':').append(box.ring(i, 1)).append(':')
                    .append(box.ring(i, 2));
        }
        for (int i = 0; i < box.about(7); i++) {
            all.append(" s=").append(box.strip(i));
        }
        return all.toString();
    }

    static String store(BelfryBox box) {
        StringBuilder all = new StringBuilder();
        for (int a = 0; a < 4096; a++) {
            all.append((char) box.peek(a));
        }
        return all.toString();
    }
}
