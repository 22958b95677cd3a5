/** Promises 10 (key) and 11 (drum). */
public final class KeysAndDrumTest {
    private static final int NONE = BelfryBox.NONE;

    public static void main(String[] args) {
        keys();
        keysGo();
        drum();
        Check.end();
    }

    private static void keys() {
        BelfryBox box = new BelfryBox();
        Check.due("key 256", box.key(256), NONE);
        Check.due("key -1", box.key(-1), NONE);
        Check.due("nothing was done", box.device(7) + box.device(11), 0);
        for (int i = 1; i <= 16; i++) {
            Check.due("key " + i, box.key(i == 16 ? 0 : 256 - i), i);
        }
        Check.due("bit 3 of CAME", box.device(7), 8);
        Check.due("key 17", box.key(9), NONE);
        Check.due("16 wait", box.device(11), 16);
        for (int i = 1; i <= 16; i++) {
            Check.due("device of key " + i, box.device(20 + i), i == 16 ? 0 : 256 - i);
        }
        Check.due("no such device", box.device(37), 0);
        box.run(3);
        Check.due("kept", box.about(2), 3);
        box.key(1);
        Check.due("kept behind a key that did not come", box.about(2), 3);
        box.restart();
        Check.due("no keys", box.device(11) + box.device(21), 0);
    }

    private static void keysGo() {
        BelfryBox box = Check.program("lda 4088\nlda 4088\nldx 4089\nlda 4088\nlda 4088\nlda 4088");
        for (int v = 40; v < 43; v++) {
            box.key(v);
        }
        box.run(1);
        Check.due("the first key", box.register(0), 40);
        Check.due("those that wait", box.device(21) * 1000 + box.device(22) * 10 + box.device(23), 41420);
        box.run(1);
        Check.due("the second key", box.register(0), 41);
        box.run(1);
        Check.due("how many wait", box.register(1), 1);
        Check.due("back", box.back(2), 2);
        Check.due("the key waits again", box.device(21), 41);
        box.run(2);
        Check.due("a key behind", box.key(50), 2);
        Check.due("nothing is kept", box.about(2), 0);
        box.run(1);
        Check.due("the third key", box.register(0), 42);
        box.run(1);
        Check.due("the fourth key", box.register(0), 50);
        box.run(1);
        Check.due("without keys", box.register(0), 0);
        Check.due("Z", box.register(5), 6);
        for (int round = 0; round < 20; round++) {
            BelfryBox full = Check.program("lda 4088\nbra .-3");
            for (int i = 0; i < 16; i++) {
                full.key(i);
            }
            full.run(2 * round);
            int left = Math.max(0, 16 - round);
            Check.due("keys left", full.device(11), left);
            Check.due("one more", full.key(99), left < 16 ? left + 1 : NONE);
        }
    }

    private static void drum() {
        BelfryBox box = new BelfryBox();
        Check.due("row -1", box.drum(-1, 1), false);
        Check.due("row 64", box.drum(64, 1), false);
        Check.due("pins 256", box.drum(0, 256), false);
        Check.due("pins -1", box.drum(0, -1), false);
        Check.due("nothing was done", box.device(20), 0);
        Check.due("row 0", box.drum(0, 255), true);
        Check.due("row 63", box.drum(63, 1), true);
        Check.due("pins of row 0", box.device(20), 255);
        box.run(2);
        box.drum(64, 0);
        Check.due("kept behind a drum that did nothing", box.about(2), 2);
        box.drum(5, 0);
        Check.due("kept behind a drum", box.about(2), 0);
        box.restart();
        Check.due("pins stay", box.device(20), 255);
        Check.assemble(box, "nop");
        Check.due("pins stay behind a text", box.device(20), 255);
    }
}
