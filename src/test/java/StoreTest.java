/** Promises 1 (a new object), 7 (restart), 8 (peek), 9 (poke). */
public final class StoreTest {
    private static final int NONE = BelfryBox.NONE;

    public static void main(String[] args) {
        newObject();
        peeks();
        pokes();
        restarts();
        Check.end();
    }

    private static void newObject() {
        BelfryBox box = new BelfryBox();
        Check.due("an empty store", Check.store(box).replace("\0", ""), "");
        int[] registers = {0, 0, 0, 255, 0, 4, 0, 0};
        for (int i = 0; i < 8; i++) {
            Check.due("new register " + i, box.register(i), registers[i]);
        }
        for (int i = -1; i < 40; i++) {
            Check.due("new device " + i, box.device(i), i == 10 ? 1 : 0);
        }
        for (int i = -1; i < 14; i++) {
            Check.due("new about " + i, box.about(i), 0);
        }
        for (int i = -1; i < 258; i++) {
            Check.due("new codes " + i, box.codes(i), 0);
        }
        Check.due("new ring", box.ring(0, 0), NONE);
        Check.due("new strip", box.strip(0), NONE);
        Check.due("new out", box.out(0), NONE);
        Check.due("new fault 0", box.fault(0), NONE);
        Check.due("new fault 1", box.fault(1), NONE);
        Check.due("new name", box.name(0, 1), 0);
        Check.due("nothing kept", box.back(1), NONE);
        Check.due("an empty tape", box.end(0), 0);
        Check.due("no byte on it", box.end(1), NONE);
    }

    private static void peeks() {
        BelfryBox box = new BelfryBox();
        box.poke(0, 255);
        box.poke(4079, 1);
        Check.due("peek 0", box.peek(0), 255);
        Check.due("peek 4079", box.peek(4079), 1);
        Check.due("peek 4095", box.peek(4095), 0);
        Check.due("peek -1", box.peek(-1), NONE);
        Check.due("peek 4096", box.peek(4096), NONE);
        Check.due("peek least", box.peek(Integer.MIN_VALUE), NONE);
        BelfryBox ports = Check.program("lda #5\nsta 4080\nsta 4093");
        ports.run(3);
        Check.due("the store has 0 at ports", ports.peek(4080) + ports.peek(4093), 0);
    }

    private static void pokes() {
        BelfryBox box = new BelfryBox();
        Check.due("poke 4080", box.poke(4080, 1), false);
        Check.due("poke -1", box.poke(-1, 1), false);
        Check.due("poke 256", box.poke(7, 256), false);
        Check.due("poke below", box.poke(7, -1), false);
        Check.due("nothing was done", box.peek(7), 0);
        box.run(5);
        box.poke(7, 256);
        Check.due("kept behind a poke that did nothing", box.about(2), 5);
        Check.due("poke 7", box.poke(7, 0), true);
        Check.due("kept behind a poke", box.about(2), 0);
        Check.due("P stays", box.register(4), 10);
    }

    private static void restarts() {
        BelfryBox box = Check.program("lda #200\nldx #1\nldy #2\npsh #9\nsec\nsta 4080\nsta 4082\nsta 4085\n"
                + "stx 4086\nsty 4087\nsta 4090\nsta 4091\nsta 4093\nlda 4094\nhlt");
        box.drum(3, 77);
        box.drum(0, 78);
        box.key(5);
        box.stop(99, true);
        box.run(20);
        Check.due("halted", box.register(6), 1);
        Check.due("a ring", box.about(6), 1);
        box.restart();
        int[] registers = {0, 0, 0, 255, 512, 4, 0, 0};
        for (int i = 0; i < 8; i++) {
            Check.due("restarted register " + i, box.register(i), registers[i]);
        }
        for (int i = 0; i < 40; i++) {
            Check.due("restarted device " + i, box.device(i), i == 10 ? 1 : i == 20 ? 78 : 0);
        }
        int[] about = {2, 15, 0, 0, 0, 0, 0, 0, 0, 1, 0};
        for (int i = 0; i < 11; i++) {
            Check.due("restarted about " + i, box.about(i), about[i]);
        }
        for (int i = 0; i <= 256; i++) {
            Check.due("restarted codes " + i, box.codes(i), 0);
        }
        Check.due("the store stays", box.peek(511), 9);
        Check.due("no ring", box.ring(0, 0), NONE);
        Check.due("no strip", box.strip(0), NONE);
        box.poke(4078, 255);
        box.poke(4079, 255);
        box.restart();
        Check.due("P is an address", box.register(4), 4095);
    }
}
