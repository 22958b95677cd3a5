/** Promises 19 (ring) and 20 (strip), with what is LOST. */
public final class RingAndStripTest {
    private static final int NONE = BelfryBox.NONE;

    public static void main(String[] args) {
        ring();
        ringIsFull();
        strip();
        stripIsFull();
        Check.end();
    }

    private static void ring() {
        BelfryBox box = Check.program("lda #$ff\nsta 4087\nlda #9\nnop\nsta 4087");
        box.run(5);
        Check.due("entries", box.about(6), 2);
        int[][] due = {{2, 7, 31}, {11, 1, 1}};
        for (int i = 0; i < 2; i++) {
            for (int what = 0; what < 3; what++) {
                Check.due("ring " + i + " " + what, box.ring(i, what), due[i][what]);
            }
            Check.due("ring " + i + " 3", box.ring(i, 3), NONE);
            Check.due("ring " + i + " -1", box.ring(i, -1), NONE);
        }
        Check.due("ring 2", box.ring(2, 0), NONE);
        Check.due("ring -1", box.ring(-1, 0), NONE);
        box.back(1);
        Check.due("an entry taken back", box.ring(1, 0), NONE);
        Check.due("the bell is ready again", box.device(13), 0);
    }

    private static void ringIsFull() {
        // Bell 0 again and again, with 110 cycles between: each strike rings.
        BelfryBox box = Check.program("sta 4087\nidl #100\nbra .-5");
        box.run(900);
        Check.due("300 entries", box.about(6), 300);
        Check.due("none is lost", box.about(4), 0);
        Check.due("the last one", box.ring(299, 0), 299 * 110);
        box.run(1);
        Check.due("a 301st is lost", box.about(4), 1);
        Check.due("300 entries yet", box.about(6), 300);
        Check.due("but the bell rests", box.device(12), 95);
        box.back(1);
        Check.due("what was lost is taken back", box.about(4), 0);
        box.back(3);
        Check.due("and the 300th", box.about(6), 299);
        Check.due("no entry", box.ring(299, 0), NONE);
    }

    private static void strip() {
        BelfryBox box = Check.program("lda #65\nsta 4090\nlda #0\nsta 4090\nldx 4090");
        Check.due("an empty strip", box.strip(0), NONE);
        box.run(5);
        Check.due("strip 0", box.strip(0), 65);
        Check.due("strip 1", box.strip(1), 0);
        Check.due("strip 2", box.strip(2), NONE);
        Check.due("strip -1", box.strip(-1), NONE);
        Check.due("how many are read", box.register(1), 2);
        Check.due("how many are told", box.about(7), 2);
        box.back(2);
        Check.due("a byte taken back", box.strip(1), NONE);
    }

    private static void stripIsFull() {
        BelfryBox box = Check.program("stx 4090\ninx\nbra .-5");
        box.run(600);
        Check.due("200 bytes", box.about(7), 200);
        Check.due("none is lost", box.about(4), 0);
        Check.due("the last one", box.strip(199), 199);
        box.run(30);
        Check.due("ten are lost", box.about(4), 10);
        Check.due("200 bytes yet", box.about(7), 200);
        Check.due("the last one stays", box.strip(199), 199);
        Check.due("no more", box.strip(200), NONE);
    }
}
