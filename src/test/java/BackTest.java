/** Promise 14 (back): steps are taken back with all that they did. */
public final class BackTest {
    private static final int NONE = BelfryBox.NONE;

    public static void main(String[] args) {
        counts();
        everyStep();
        forgotten();
        Check.end();
    }

    private static void counts() {
        BelfryBox box = Check.program("ldx #0\ninx\nstx 300\nbra .-5");
        Check.due("none is kept", box.back(1), NONE);
        box.run(100);
        Check.due("back 0", box.back(0), NONE);
        Check.due("back -1", box.back(-1), NONE);
        Check.due("back 101", box.back(101), NONE);
        Check.due("nothing was done", box.about(2), 100);
        Check.due("back 40", box.back(40), 40);
        Check.due("kept", box.about(2), 60);
        Check.due("back 61", box.back(61), NONE);
        box.run(1000);
        Check.due("the latest 256", box.about(2), 256);
        Check.due("back 257", box.back(257), NONE);
        Check.due("back 256", box.back(256), 256);
        Check.due("none is left", box.back(1), NONE);
        BelfryBox other = Check.program("ldx #0\ninx\nstx 300\nbra .-5");
        other.run(60 + 1000 - 256);
        Check.due("as a box that went only there", Check.state(box), Check.state(other));
        Check.due("and its store", Check.store(box).equals(Check.store(other)), true);
        box.run(256);
        other.run(256);
        Check.due("and they go on alike", Check.state(box), Check.state(other));
    }

    /** A program that changes all devices and has interrupts, a trap, and a reset by the watch. */
    private static final String BUSY = "lda #200\nsta 4080\nsta 4086\nlda #1\nsta 4082\nsta 4085\n"
            + "lda #15\nsta 4093\ncli\nlda #50\nsta 4091\n"
            + "loop: lda 4094\nsta 4087\nsta 4090\ninc 4087\nldx 4088\njsr deep\npsh #7\npla\ntrp #3\n"
            + "ldy #90\nswp <9\nror <9\nrol 300\nsty 4086\nidl #60\nbra loop\n"
            + "deep: phx\nphf\nplf\nplx\nrts\n"
            + "org 768\ninc <1\nrti\norg 1024\npha\nlda 4092\nsta 4092\npla\nrti";

    private static BelfryBox busy() {
        BelfryBox box = Check.program(BUSY);
        for (int row = 0; row < 64; row += 3) {
            box.drum(row, row + 1);
        }
        for (int i = 0; i < 10; i++) {
            box.key(100 + i);
        }
        return box;
    }

    private static void everyStep() {
        BelfryBox box = busy();
        int steps = 700;
        String[] states = new String[steps + 1];
        String[] stores = new String[steps + 1];
        for (int i = 0; i <= steps; i++) {
            states[i] = Check.state(box);
            stores[i] = Check.store(box);
            if (i < steps) {
                Check.due("step " + i, box.run(1), 1);
            }
        }
        Check.due("interrupts came", box.codes(256) > 10, true);
        Check.due("the watch ran out", box.about(5) > 0, true);
        Check.due("bells were muffled", box.about(3) > 0, true);
        int at = steps;
        int[] jumps = {1, 1, 1, 2, 5, 20, 100, 126};
        for (int n : jumps) {
            Check.due("back " + n, box.back(n), n);
            at -= n;
            Check.due("the state ahead of step " + at, Check.state(box), states[at]);
            Check.due("the store ahead of step " + at, Check.store(box).equals(stores[at]), true);
        }
        Check.due("none is left", box.about(2), 0);
        Check.due("a reset was taken back", states[at].contains(" a5=0 "), true);
        box.run(steps - at);
        Check.due("forward again", Check.state(box), states[steps]);
        Check.due("with its store", Check.store(box).equals(stores[steps]), true);
    }

    private static void forgotten() {
        BelfryBox box = busy();
        box.run(10);
        box.stop(3, true);
        box.text(0);
        Check.feed(box, "nop");
        Check.due("kept behind what does nothing to it", box.about(2), 10);
        box.restart();
        Check.due("forgotten by restart", box.back(1), NONE);
        box.run(10);
        box.key(256);
        box.poke(-1, 0);
        box.drum(0, -1);
        Check.due("kept behind what did nothing", box.about(2), 10);
        box.key(1);
        Check.due("forgotten by key", box.back(1), NONE);
        box.run(10);
        box.poke(3000, 1);
        Check.due("forgotten by poke", box.back(1), NONE);
        box.run(10);
        box.drum(1, 1);
        Check.due("forgotten by drum", box.back(1), NONE);
        box.run(10);
        box.assemble();
        Check.due("forgotten by assemble", box.back(1), NONE);
    }
}
