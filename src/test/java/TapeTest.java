/** Promises 2 (feed) and 3 (end), and what assemble() leaves of the tape. */
public final class TapeTest {
    private static final int NONE = BelfryBox.NONE;

    public static void main(String[] args) {
        BelfryBox box = new BelfryBox();
        for (int i = 1; i <= 300; i++) {
            Check.due("feed " + i, box.feed(-1, 0x3b3b3b3b, 0, 1, Integer.MIN_VALUE), 20 * i);
        }
        Check.due("feed 301", box.feed(0, 0, 0, 0, 0), NONE);
        Check.due("the tape stays", box.about(10), 6000);
        Check.due("end 6001", box.end(6001), NONE);
        Check.due("end -1", box.end(-1), NONE);
        Check.due("end 6000", box.end(6000), 6000);
        Check.due("end 5981", box.end(5981), 5981);
        Check.due("feed beyond 6000", box.feed(0, 0, 0, 0, 0), NONE);
        Check.due("end 5980", box.end(5980), 5980);
        Check.due("feed up to 6000", box.feed(0, 0, 0, 0, 0), 6000);
        Check.due("end 3", box.end(3), 3);
        Check.due("end 4", box.end(4), NONE);
        Check.due("end 0", box.end(0), 0);
        Check.due("tape", box.about(10), 0);
        byteOrder();
        emptyBehindAssemble();
        readme();
        Check.end();
    }

    private static void byteOrder() {
        BelfryBox box = new BelfryBox();
        // text "abcdefghijklm", the highest byte of each number first
        Check.due("feed", box.feed(0x74657874, 0x20226162, 0x63646566, 0x6768696a, 0x6b6c6d22), 20);
        Check.due("assemble", box.assemble(), 13);
        for (int i = 0; i < 13; i++) {
            Check.due("byte " + i, box.peek(i), 'a' + i);
        }
        BelfryBox high = new BelfryBox();
        // ; and a byte 255, then a line with a byte 255 that begins no token
        high.feed(0x3bff0aff, 0, 0, 0, 0);
        Check.due("bytes above 127", high.assemble(), NONE);
        Check.due("at the byte 255", high.fault(1), 3);
    }

    private static void emptyBehindAssemble() {
        BelfryBox box = new BelfryBox();
        Check.feed(box, "byte 1");
        box.assemble();
        Check.due("the tape is empty", box.about(10), 0);
        Check.feed(box, "nonsense");
        Check.due("a fault", box.assemble(), NONE);
        Check.due("the tape is empty behind a fault too", box.about(10), 0);
        Check.due("the store stays", box.peek(0), 1);
        Check.due("an empty text", box.assemble(), 0);
        Check.due("it lays nothing", box.peek(0), 0);
    }

    /** The example of README.md. */
    private static void readme() {
        BelfryBox box = new BelfryBox();
        box.feed(0x6f726720, 0x34303738, 0x0a776f72, 0x64203531, 0x320a6f72);
        box.feed(0x67203531, 0x320a6c64, 0x61202337, 0x0a686c74, 0x0a000000);
        box.end(37);
        Check.due("assemble", box.assemble(), 516);
        Check.due("run", box.run(100), 2);
        Check.due("A", box.register(0), 7);
        Check.due("text", box.text(512), 2);
        Check.due("out", Check.out(box), "lda #7");
        Check.due("back", box.back(2), 2);
        Check.due("A taken back", box.register(0), 0);
    }
}
