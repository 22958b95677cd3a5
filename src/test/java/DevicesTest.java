/** Promise 16 (device) and section III: ports, and what a cycle does. */
public final class DevicesTest {
    public static void main(String[] args) {
        clock();
        clockStarts();
        drum();
        drumSpeed();
        bells();
        watch();
        cameAndMask();
        dice();
        deadPorts();
        Check.due("device -1", new BelfryBox().device(-1), 0);
        Check.due("device 37", new BelfryBox().device(37), 0);
        Check.end();
    }

    private static void clock() {
        BelfryBox box = Check.program("lda #10\nsta 4080\nlda #1\nsta 4081\nsta 4082\nlda 4083\nldx 4084\nldy 4082\n"
                + "idl #240");
        box.run(4);
        Check.due("LOAD", box.device(0), 266);
        Check.due("it does not run", box.device(2), 0);
        Check.due("COUNT", box.device(1), 0);
        box.run(1);
        Check.due("it runs", box.device(2), 1);
        Check.due("COUNT behind 5 cycles", box.device(1), 261);
        box.run(3);
        Check.due("COUNT's lower byte", box.register(0), 5);
        Check.due("COUNT's higher byte", box.register(1), 1);
        Check.due("whether it runs", box.register(2), 1);
        Check.due("COUNT", box.device(1), 249);
        box.run(1);
        Check.due("COUNT behind 242 more", box.device(1), 7);
        Check.due("CAME", box.device(7), 0);
        box = Check.program("lda #3\nsta 4080\nsta 4082\nlda #0\nsta 4082\nnop");
        box.run(2);
        box.run(1);
        Check.due("2, 1, 0, LOAD, and one less", box.device(1), 2);
        Check.due("bit 0 of CAME", box.device(7), 1);
        box.run(1);
        Check.due("it runs on", box.device(1), 0);
        box.run(1);
        Check.due("it stands", box.device(1), 0);
        Check.due("it does not run any more", box.device(2), 0);
        box = Check.program("lda #1\nsta 4082\nnop");
        box.run(2);
        Check.due("LOAD 0 comes each cycle", box.device(7), 1);
    }

    private static void clockStarts() {
        BelfryBox box = Check.program("lda #100\nldx #1\nstx 4082\nsta 4080\nstx 4082\nstz 4082\nstz 4082");
        box.run(3);
        Check.due("COUNT of a LOAD 0", box.device(1), 0);
        box.run(1);
        Check.due("it came round behind the write of LOAD", box.device(1), 96);
        box.run(1);
        Check.due("a clock that runs keeps its COUNT", box.device(1), 91);
        box.run(1);
        Check.due("a clock that is stopped too", box.device(1), 91);
        box.run(1);
        Check.due("when it did not run, COUNT is LOAD", box.device(1), 100);
        Check.due("nor does it run now", box.device(2), 0);
    }

    private static void drum() {
        BelfryBox box = Check.program("lda #1\nsta 4085\nnop\nnop\nldx 4086\nldy 4085\nbra .");
        box.drum(1, 5);
        box.drum(3, 200);
        box.run(2);
        Check.due("it turns", box.device(3), 1);
        Check.due("PART", box.device(5), 5);
        box.run(1);
        Check.due("PART 7", box.device(5), 7);
        Check.due("ROW 0", box.device(6), 0);
        box.run(1);
        Check.due("PART behind 9", box.device(5), 1);
        Check.due("ROW 1", box.device(6), 1);
        Check.due("bit 1 of CAME", box.device(7), 2);
        Check.due("PINS of ROW 1", box.device(20), 5);
        box.run(2);
        Check.due("ROW read", box.register(1), 1);
        Check.due("PINS read", box.register(2), 5);
        Check.due("ROW 2", box.device(6), 2);
        box.run(162);
        Check.due("the drum goes round", box.device(6), 62);
        box.run(3);
        Check.due("ROW 0 again", box.device(6), 0);
        BelfryBox without = Check.program("lda #1\nsta 4085\nidl #9");
        without.run(3);
        Check.due("a row without pins", without.device(7), 0);
        Check.due("but it is there", without.device(6), 2);
    }

    private static void drumSpeed() {
        BelfryBox box = Check.program("lda #4\nsta 4086\nlda #1\nsta 4085\nidl #25\nstz 4086\nstz 4085\nnop");
        box.run(5);
        Check.due("SPEED", box.device(4), 4);
        Check.due("PART 32 of 40", box.device(5), 32);
        box.run(1);
        Check.due("8 times 1 or more: at once", box.device(6), 1);
        Check.due("PART", box.device(5), 4);
        box.run(2);
        Check.due("it does not turn any more", box.device(3), 0);
        Check.due("PART stays", box.device(5), 4);
    }

    private static void bells() {
        BelfryBox box = Check.program("lda #$13\nsta 4087\nldx 4087\nsta 4087\nlda #0\nsta 4087\nidl #255");
        box.run(2);
        Check.due("bell 3 rests 100 + 20 times 2, less 5", box.device(15), 135);
        Check.due("others do not", box.device(12) + box.device(14) + box.device(16), 0);
        box.run(1);
        Check.due("bells that do not rest", box.register(1), 255 - 8);
        box.run(1);
        Check.due("MUFFLED", box.about(3), 1);
        Check.due("one entry", box.about(6), 1);
        Check.due("its rest goes on", box.device(15), 126);
        box.run(2);
        Check.due("bell 0 rests 100", box.device(12), 95);
        Check.due("two entries", box.about(6), 2);
        Check.due("no bell has rested", box.device(7), 0);
        box.run(1);
        Check.due("bit 2 of CAME", box.device(7), 4);
        Check.due("both have rested", box.device(12) + box.device(15), 0);
        BelfryBox last = Check.program("sta 4087\nidl #92\nsta 4087\nsta 4087");
        last.run(2);
        Check.due("one cycle of rest is left", last.device(12), 1);
        last.run(1);
        Check.due("it is muffled yet", last.about(3), 1);
        last.run(1);
        Check.due("then it rings", last.about(6), 2);
        BelfryBox all = Check.program("lda #$ff\nsta 4087\nidl #94\nidl #255\nidl #255\nidl #103\nnop");
        all.run(2);
        Check.due("bell 7 rests 720, less 5", all.device(19), 715);
        all.run(4);
        Check.due("it rests yet", all.device(19), 0);
        Check.due("it came with the last cycle", all.device(7), 4);
    }

    private static void watch() {
        BelfryBox box = Check.program("lda #1\nsta 4091\nsta 4082\nsta 4085\nsta 4093\nldx #9\nphx\ncli\nsec\n"
                + "sta 4086\nidl #29\nidl #50\nhlt");
        box.key(5);
        box.run(2);
        Check.due("WATCH is 64, less 5", box.device(9), 59);
        box.run(5);
        Check.due("WATCH", box.device(9), 59 - 15 - 5);
        box.run(1);
        Check.due("WATCH", box.device(9), 37);
        Check.due("RUNS and TURNS", box.device(2) + box.device(3), 2);
        BelfryBox plain = Check.program("lda #1\nsta 4091\nsta 4082\nsta 4085\nsta 4086\nldx #9\nphx\nsec\nidl #33\n"
                + "idl #50\nhlt");
        plain.key(5);
        plain.run(9);
        Check.due("2 left", plain.device(9), 2);
        Check.due("no reset yet", plain.about(5), 0);
        plain.run(1);
        Check.due("WATCH 0", plain.device(9), 0);
        Check.due("RESETS", plain.about(5), 1);
        int[] registers = {0, 0, 0, 255, 512, 4, 0};
        for (int i = 0; i < 7; i++) {
            Check.due("register " + i + " behind a reset", plain.register(i), registers[i]);
        }
        Check.due("all cycles of the step pass", plain.register(7), 2 + 5 + 5 + 5 + 5 + 2 + 3 + 2 + 35 + 52);
        Check.due("RUNS, TURNS, CAME, MASK", plain.device(2) + plain.device(3) + plain.device(7) + plain.device(8), 0);
        Check.due("SPEED stays", plain.device(4), 1);
        Check.due("keys stay", plain.device(11), 1);
        Check.due("a reset is no restart: codes", plain.codes(248), 2);
        Check.due("kept", plain.about(2), 10);
        Check.due("back", plain.back(1), 1);
        Check.due("the watch taken back", plain.device(9), 2);
        Check.due("resets taken back", plain.about(5), 0);
        Check.due("X taken back", plain.register(1), 9);
        BelfryBox exact = Check.program("lda #1\nsta 4091\nidl #57");
        exact.run(3);
        Check.due("it runs out with the last cycle", exact.about(5), 1);
        BelfryBox halt = Check.program("lda #1\nsta 4091\nidl #56\nhlt");
        halt.run(3);
        Check.due("1 left", halt.device(9), 1);
        halt.run(1);
        Check.due("a reset ends HALTED", halt.register(6), 0);
        BelfryBox off = Check.program("lda #1\nsta 4091\nstz 4091\nidl #99");
        off.run(4);
        Check.due("a watch that is 0 does nothing", off.about(5), 0);
    }

    private static void cameAndMask() {
        BelfryBox box = Check.program("lda #9\nsta 4082\nsta 4093\nldx 4092\nldy 4093\nsta 4092\nlda 4092\nlda #4\n"
                + "sta 4092");
        box.key(5);
        box.run(5);
        Check.due("CAME read", box.register(1), 9);
        Check.due("MASK read", box.register(2), 9);
        Check.due("MASK", box.device(8), 9);
        box.run(1);
        Check.due("both bits went, and the clock came again", box.device(7), 1);
        box.run(3);
        Check.due("a bit that v has not stays", box.device(7), 1);
    }

    private static void dice() {
        BelfryBox box = Check.program("lda 4094\nldx 4094\nlda #200\nsta 4094\nlda 4094\ninc 4094");
        int seed = 1103515245 + 12345;
        box.run(1);
        Check.due("SEED", box.device(10), seed);
        Check.due("the dice", box.register(0), seed >>> 16 & 255);
        seed = seed * 1103515245 + 12345;
        box.run(1);
        Check.due("SEED again", box.device(10), seed);
        Check.due("the dice again", box.register(1), seed >>> 16 & 255);
        box.run(2);
        Check.due("SEED is v", box.device(10), 200);
        seed = 200 * 1103515245 + 12345;
        box.run(1);
        Check.due("the dice from 200", box.register(0), seed >>> 16 & 255);
        box.run(1);
        seed = seed * 1103515245 + 12345;
        Check.due("inc reads once, and writes", box.device(10), (seed >>> 16) + 1 & 255);
    }

    private static void deadPorts() {
        BelfryBox box = Check.program("lda #77\nsta 4083\nsta 4084\nsta 4088\nsta 4089\nsta 4095\nldx 4095\nldy 4091\n"
                + "lda 4089");
        box.key(3);
        box.run(1);
        String before = devices(box);
        box.run(5);
        Check.due("writes that do nothing", devices(box), before);
        box.run(3);
        Check.due("ports that read 0", box.register(1) + box.register(2), 0);
        Check.due("keys that wait", box.register(0), 1);
    }

    private static String devices(BelfryBox box) {
        StringBuilder all = new StringBuilder();
        for (int i = 0; i < 37; i++) {
            all.append(box.device(i)).append(' ');
        }
        return all.toString();
    }
}
