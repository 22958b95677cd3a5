/** Section III at its edges, a sentence at a time: what comes at 0, what is full, what goes round. */
public final class DeviceEdgesTest {
    private static final int NONE = BelfryBox.NONE;

    public static void main(String[] args) {
        line();
        load();
        runsByBitZero();
        countIsLoad();
        turnsByBitZero();
        speed();
        bellBits();
        strikeNumbers();
        keyPort();
        keysFull();
        stripFull();
        watchPort();
        cameBits();
        maskPort();
        dice();
        portsThatDoNothing();
        muffled();
        ringEntry();
        ringFull();
        rests();
        clockAtZero();
        clockLongest();
        drumParts();
        drumParts255();
        drumOrMore();
        drumGoesRound();
        drumPins();
        bellComes();
        watchRunsOut();
        watchOff();
        resetSets();
        resetLeaves();
        atFirst();
        Check.end();
    }

    private static void line() {
        Check.sentence("CAME and MASK are BYTES; the LINE is on if they have a bit in common");
        for (int mask = 0; mask < 256; mask++) {
            // CAME has bits 0 (the clock's) and 3 (a key's).
            BelfryBox box = Check.program("ldx #1\nstx 4082\nstz 4082\nlda #" + mask + "\nsta 4093\ncli\nnop");
            box.key(5);
            box.run(7);
            Check.due("CAME", box.device(7), 9);
            Check.due("MASK", box.device(8), mask);
            Check.due("interrupts with MASK " + mask, box.codes(256), (mask & 9) != 0 ? 1 : 0);
        }
    }

    private static void load() {
        Check.sentence("0, 1 LOAD: its lower, higher byte; likewise");
        BelfryBox box = Check.ran(3, "lda #255\nsta 4080\nsta 4081\nldx 4080\nldy 4081\nstz 4080\nldx 4080\nldy 4081\n"
                + "sta 4080\nstz 4081");
        Check.due("LOAD", box.device(0), 65535);
        box.run(2);
        Check.due("bytes read", box.register(1) * 256 + box.register(2), 65535);
        box.run(1);
        Check.due("LOAD without its lower byte", box.device(0), 65280);
        box.run(2);
        Check.due("bytes read again", box.register(1) * 256 + box.register(2), 255);
        box.run(2);
        Check.due("LOAD without its higher byte", box.device(0), 255);
    }

    private static void runsByBitZero() {
        Check.sentence("2 whether the clock RUNS (0, 1); bit 0: it RUNS from now on or not");
        int[][] due = {{0, 0}, {1, 1}, {2, 0}, {254, 0}, {255, 1}};
        for (int[] one : due) {
            BelfryBox box = Check.ran(3, "lda #" + one[0] + "\nsta 4082\nldx 4082");
            Check.due("RUNS by " + one[0], box.device(2), one[1]);
            Check.due("read", box.register(1), one[1]);
            box = Check.ran(4, "ldx #1\nstx 4082\nlda #" + one[0] + "\nsta 4082");
            Check.due("RUNS by 1, then " + one[0], box.device(2), one[1]);
        }
    }

    private static void countIsLoad() {
        Check.sentence("when it did not, COUNT is LOAD");
        BelfryBox box = Check.ran(3, "lda #100\nsta 4080\nldx #1\nstx 4082\nidl #8\nstx 4082\nstz 4082\nstx 4082\n"
                + "stz 4082");
        Check.due("COUNT ahead of all", box.device(1), 0);
        box.run(1);
        Check.due("it starts with LOAD", box.device(1), 100 - 5);
        box.run(2);
        Check.due("a clock that runs goes on", box.device(1), 95 - 10 - 5);
        box.run(1);
        Check.due("one that is stopped keeps COUNT", box.device(1), 80);
        box.run(1);
        Check.due("it starts with LOAD again", box.device(1), 100 - 5);
        box = Check.ran(4, "lda #7\nldx #1\nstx 4082\nsta 4080");
        Check.due("a LOAD that comes to a running clock counts when COUNT was 0", box.device(1), 7 - 4);
    }

    private static void turnsByBitZero() {
        Check.sentence("5 the PINS of the drum's ROW; bit 0: it TURNS or not");
        int[][] due = {{0, 0}, {1, 1}, {2, 0}, {254, 0}, {255, 1}};
        for (int[] one : due) {
            BelfryBox box = Check.program("lda #" + one[0] + "\nsta 4085\nldx 4085");
            box.drum(0, 255);
            box.run(3);
            Check.due("TURNS by " + one[0], box.device(3), one[1]);
            Check.due("PINS read", box.register(1), 255);
            Check.due("device(20)", box.device(20), one[1] == 1 ? 0 : 255);
        }
    }

    private static void speed() {
        Check.sentence("6 ROW; SPEED");
        BelfryBox box = Check.ran(5, "lda #255\nsta 4086\nldx 4086\nlda #0\nsta 4086");
        Check.due("ROW read, not SPEED", box.register(1), 0);
        Check.due("SPEED 0 again", box.device(4), 0);
        box.back(1);
        Check.due("SPEED 255", box.device(4), 255);
    }

    private static void bellBits() {
        Check.sentence("7 a bit for each bell 0 .. 7 that does not rest");
        BelfryBox box = Check.ran(1, "lda #8\nldx 4087\nsta 4087\nina\nbra .-8");
        for (int bell = 0; bell < 8; bell++) {
            box.run(1);
            Check.due("bells that do not rest, with " + bell + " that do", box.register(1), 255 << bell & 255);
            box.run(3);
        }
        box.run(1);
        Check.due("all bells rest", box.register(1), 0);
        Check.does("lda #255\ncmp 4087", 255, 0, 0, 3, 4);
        for (int bell = 0; bell < 8; bell++) {
            BelfryBox one = Check.ran(3, "lda #" + bell + "\nsta 4087\nldx 4087");
            Check.due("without bell " + bell, one.register(1), 255 - (1 << bell));
        }
    }

    private static void strikeNumbers() {
        Check.sentence("STRIKE the bell v modulo 8 with the force v / 8");
        for (int v : new int[] {0, 7, 8, 15, 248, 255, 100}) {
            BelfryBox box = Check.ran(2, "lda #" + v + "\nsta 4087");
            Check.due("bell of " + v, box.ring(0, 1), v % 8);
            Check.due("force of " + v, box.ring(0, 2), v / 8);
            Check.due("rest of " + v, box.device(12 + v % 8), 100 + 20 * (v / 8) - 5);
        }
    }

    private static void keyPort() {
        Check.sentence("8 the first KEY that waits, which goes (0 without); nothing. 9 how many KEYS wait; nothing");
        BelfryBox box = Check.program("ldx 4089\nlda 4088\nldx 4089\nlda 4088\nlda 4088\nldx 4089\nsta 4088\nsta 4089");
        box.key(255);
        box.key(0);
        box.run(2);
        Check.due("two waited", box.register(1), 2);
        Check.due("the first key", box.register(0), 255);
        box.run(1);
        Check.due("one waits", box.register(1), 1);
        box.run(1);
        Check.due("a key 0", box.register(0), 0);
        Check.due("none waits", box.device(11), 0);
        box.run(2);
        Check.due("without keys", box.register(0) + box.register(1), 0);
        Check.due("bit 3 of CAME stays", box.device(7), 8);
        box.run(2);
        Check.due("a write brings no key", box.device(11), 0);
    }

    private static void keysFull() {
        Check.sentence("A KEY comes behind those that wait .. NONE, and nothing is done, if 16 wait");
        BelfryBox box = Check.program("lda 4088\nldx 4089\nbra .-6");
        for (int i = 1; i <= 16; i++) {
            Check.due("key " + i, box.key(100 + i), i);
        }
        Check.due("a 17th", box.key(99), NONE);
        for (int i = 1; i <= 40; i++) {
            box.run(3);
            Check.due("key that goes " + i, box.register(0), 100 + i);
            Check.due("those that wait", box.register(1), 15);
            Check.due("one that comes behind", box.key(100 + i + 16), 16);
            Check.due("the last one", box.device(36), 100 + i + 16);
            Check.due("none more", box.key(1), NONE);
        }
    }

    private static void stripFull() {
        Check.sentence("10 how many BYTES the STRIP has, modulo 256; one more (200 at most, more are LOST)");
        BelfryBox box = Check.program("stx 4090\nlda 4090\ninx\nbra .-8");
        box.run(4 * 199);
        Check.due("199", box.about(7), 199);
        Check.due("199 read", box.register(0), 199);
        box.run(2);
        Check.due("200 read", box.register(0), 200);
        Check.due("none is LOST", box.about(4), 0);
        box.run(4);
        Check.due("200 yet", box.register(0), 200);
        Check.due("one is LOST", box.about(4), 1);
        Check.due("the 200th stays", box.strip(199), 199);
        Check.due("there is no 201st", box.strip(200), NONE);
        box.run(4);
        Check.due("two are LOST", box.about(4), 2);
    }

    private static void watchPort() {
        Check.sentence("11 0; WATCH is 64 v");
        BelfryBox box = Check.ran(3, "lda #255\nsta 4091\nldx 4091\nlda #1\nsta 4091\nstz 4091");
        Check.due("64 times 255", box.device(9), 16320 - 5 - 4);
        Check.due("it reads 0", box.register(1), 0);
        box.run(2);
        Check.due("64", box.device(9), 64 - 5);
        box.run(1);
        Check.due("0", box.device(9), 0);
        Check.due("a 0 that was written is no RESET", box.about(5), 0);
    }

    private static void cameBits() {
        Check.sentence("12 CAME; its bits that v has become 0");
        for (int v = 0; v < 16; v++) {
            BelfryBox box = Check.program("ldx #1\nstx 4082\nstz 4082\nlda #" + v + "\nsta 4092\nldy 4092");
            box.key(5);
            box.run(6);
            Check.due("CAME 9 without " + v, box.device(7), 9 & ~v);
            Check.due("read", box.register(2), 9 & ~v);
        }
        BelfryBox again = Check.ran(4, "lda #1\nsta 4082\nsta 4092\nnop");
        Check.due("what comes behind the write is there", again.device(7), 1);
        BelfryBox other = Check.ran(2, "lda #255\nsta 4092");
        Check.due("a write brings no bit", other.device(7), 0);
    }

    private static void maskPort() {
        Check.sentence("13 MASK; MASK");
        for (int v : new int[] {0, 1, 128, 255}) {
            BelfryBox box = Check.ran(3, "lda #" + v + "\nsta 4093\nldx 4093");
            Check.due("MASK", box.device(8), v);
            Check.due("read", box.register(1), v);
        }
    }

    private static void dice() {
        Check.sentence("14 the DICE: SEED becomes SEED * 1103515245 + 12345 (an int, it wraps), the answer is bits "
                + "16 .. 23 of it; SEED is v");
        BelfryBox box = Check.program("lda 4094\nbra .-3");
        long seed = 1;
        boolean below = false;
        boolean above = false;
        for (int i = 0; i < 100; i++) {
            box.run(2);
            seed = (int) (seed * 1103515245L + 12345L);
            Check.due("SEED " + i, box.device(10), seed);
            Check.due("answer " + i, box.register(0), Math.floorDiv(seed, 65536L) & 255);
            below |= seed < 0;
            above |= seed > 0;
        }
        Check.due("SEED went round both ends", below && above, true);
        for (int v : new int[] {0, 1, 255}) {
            BelfryBox set = Check.ran(2, "lda #" + v + "\nsta 4094\nldx 4094");
            Check.due("SEED", set.device(10), v);
            set.run(1);
            Check.due("SEED from " + v, set.device(10), (int) (v * 1103515245L + 12345L));
        }
        Check.due("the first answer", Check.ran(1, "lda 4094").register(0), 198);
        Check.due("the first SEED", Check.ran(1, "lda 4094").device(10), 1103527590);
    }

    private static void portsThatDoNothing() {
        Check.sentence("3, 4 COUNT: its lower, higher byte; nothing .. 15 0; nothing");
        for (int port : new int[] {4083, 4084, 4088, 4089, 4095}) {
            BelfryBox box = Check.program("lda #5\nsta 4080\nldx #1\nstx 4081\nstx 4082\nsta " + port);
            box.key(7);
            box.run(5);
            int count = box.device(1);
            Check.due("COUNT", count, 256);
            box.run(1);
            Check.due("COUNT behind a write to " + port, box.device(1), count - 5);
            Check.due("LOAD", box.device(0), 261);
            Check.due("keys", box.device(11) * 1000 + box.device(21), 1007);
            Check.due("CAME", box.device(7), 8);
        }
        BelfryBox read = Check.ran(6, "lda #5\nsta 4080\nldx #1\nstx 4081\nstx 4082\nldx 4084\nlda 4083\nldy 4095");
        Check.due("COUNT's higher byte", read.register(1), 1);
        read.run(1);
        Check.due("COUNT's lower byte", read.register(0), 252);
        read.run(1);
        Check.due("port 15", read.register(2), 0);
    }

    private static void muffled() {
        Check.sentence("STRIKE: a bell that rests is MUFFLED (one more)");
        BelfryBox box = Check.ran(3, "lda #8\nsta 4087\nsta 4087");
        Check.due("MUFFLED", box.about(3), 1);
        Check.due("it rests no longer for that", box.device(12), 120 - 10);
        Check.due("no entry", box.about(6), 1);
        Check.due("nothing is LOST", box.about(4), 0);
        // It rests 120 from the cycle 2 on: at 121 yet, at 122 no more.
        box = Check.ran(4, "lda #8\nsta 4087\nidl #112\nsta 4087");
        Check.due("muffled with one cycle left", box.about(3), 1);
        box = Check.ran(4, "lda #8\nsta 4087\nidl #113\nsta 4087");
        Check.due("not muffled with none left", box.about(3), 0);
        Check.due("it rings", box.ring(1, 0), 122);
    }

    private static void ringEntry() {
        Check.sentence("it rings: an entry of the RING: CYCLES (as they are in this STEP ahead of its own), bell, "
                + "force");
        BelfryBox box = Check.ran(1, "sta 4087\nidl #255\nlda #9\nsta 4087");
        Check.due("CYCLES of the first step", box.ring(0, 0), 0);
        Check.due("CYCLES are more now", box.register(7), 5);
        box.run(3);
        Check.due("CYCLES of the fourth", box.ring(1, 0), 5 + 257 + 2);
        Check.due("bell", box.ring(1, 1), 1);
        Check.due("force", box.ring(1, 2), 1);
        box = Check.ran(1, "inc 4087");
        Check.due("inc reads 255 and strikes bell 0", box.ring(0, 0) + box.ring(0, 1) + box.ring(0, 2), 0);
        Check.due("it rests", box.device(12), 100 - 6);
    }

    private static void ringFull() {
        Check.sentence("(300 entries at most, more are LOST), and it rests 100 + 20 times the force");
        BelfryBox box = Check.program("sta 4087\nidl #90\nbra .-5");
        box.run(3 * 300);
        Check.due("300 entries", box.about(6), 300);
        Check.due("none is LOST", box.about(4), 0);
        Check.due("none is MUFFLED", box.about(3), 0);
        Check.due("the 300th", box.ring(299, 0), 29900);
        box.run(1);
        Check.due("300 entries yet", box.about(6), 300);
        Check.due("one is LOST", box.about(4), 1);
        Check.due("no 301st", box.ring(300, 0), NONE);
        Check.due("the 300th stays", box.ring(299, 0), 29900);
        Check.due("the bell rests for it", box.device(12), 95);
        box.run(3);
        Check.due("two are LOST", box.about(4), 2);
    }

    private static void rests() {
        Check.sentence("it rests 100 + 20 times the force");
        BelfryBox soft = Check.ran(2, "sta 4087\nidl #92");
        Check.due("force 0: one left of 100", soft.device(12), 1);
        BelfryBox loud = Check.ran(5, "lda #255\nsta 4087\nidl #255\nidl #198\nidl #255");
        Check.due("force 31: one left of 720", loud.device(19), 720 - 5 - 257 - 200 - 257);
    }

    private static void clockAtZero() {
        Check.sentence("the clock, if it RUNS: COUNT is one less, or, if it is 0, LOAD, and bit 0 of CAME is 1");
        for (int load = 0; load <= 12; load++) {
            for (int more = 0; more <= 24; more++) {
                BelfryBox box = Check.ran(5, "lda #" + load + "\nldx #1\nsta 4080\nstx 4082\nidl #" + more);
                int cycles = 5 + 2 + more;
                Check.due("COUNT of LOAD " + load + " behind " + cycles, box.device(1), down(load, cycles));
                Check.due("CAME of LOAD " + load + " behind " + cycles, box.device(7), cycles > load ? 1 : 0);
            }
        }
        Check.due("5 cycles from 5: no bit yet", Check.ran(3, "lda #5\nsta 4080\nsta 4082").device(7), 0);
        Check.due("and COUNT is 0", Check.ran(3, "lda #5\nsta 4080\nsta 4082").device(1), 0);
        BelfryBox one = Check.ran(4, "lda #7\nsta 4080\nsta 4082\nnop\nnop");
        Check.due("7 cycles from 7", one.device(1) + one.device(7), 0);
        one.run(1);
        Check.due("LOAD comes with the 8th", one.device(1), 6);
        Check.due("bit 0 of CAME too", one.device(7), 1);
    }

    /** COUNT, from LOAD, behind some cycles: LOAD .. 0 are LOAD + 1 of them. */
    private static int down(int load, int cycles) {
        return load - cycles % (load + 1);
    }

    private static void clockLongest() {
        Check.sentence("COUNT is one less, or, if it is 0, LOAD (65535 at most)");
        BelfryBox box = Check.ran(4, "lda #255\nsta 4080\nsta 4081\nsta 4082\nidl #254\nbra .-2");
        Check.due("COUNT", box.device(1), 65530);
        box.run(2 * 253);
        Check.due("COUNT far on", box.device(1), 65530 - 253 * 259);
        Check.due("CAME", box.device(7), 0);
        box.run(2);
        Check.due("it came round", box.device(7), 1);
        Check.due("COUNT from LOAD on", box.device(1), 65536 + 65530 - 254 * 259);
    }

    private static void drumParts() {
        Check.sentence("its PART is one more; when that is 8 times (SPEED + 1) (or more) it is 0, ROW is one more");
        for (int speed = 0; speed < 4; speed++) {
            int whole = 8 * (speed + 1);
            BelfryBox box = Check.ran(5, "ldx #" + speed + "\nstx 4086\nlda #1\nsta 4085\nidl #" + (whole - 1 - 5 - 2)
                    + "\nhlt");
            Check.due("PART one less than all with SPEED " + speed, box.device(5), whole - 1);
            Check.due("ROW 0 yet", box.device(6), 0);
            box.run(1);
            Check.due("ROW 1", box.device(6), 1);
            Check.due("PART 0 and one more", box.device(5), 1);
        }
    }

    private static void drumParts255() {
        Check.sentence("8 times (SPEED + 1): SPEED 255");
        BelfryBox box = Check.ran(3, "lda #255\nsta 4086\nsta 4085\nidl #253\nbra .-2");
        box.run(14);
        Check.due("PART", box.device(5), 5 + 7 * 258);
        box.run(1);
        Check.due("ROW behind 2048", box.device(6), 1);
        Check.due("PART behind 2048", box.device(5), 5 + 7 * 258 + 255 - 2048);
        box.back(1);
        Check.due("ROW ahead of it", box.device(6), 0);
    }

    private static void drumOrMore() {
        Check.sentence("when that is 8 times (SPEED + 1) (or more) it is 0");
        BelfryBox box = Check.ran(5, "lda #255\nsta 4086\nsta 4085\nidl #250\nidl #250");
        int part = 5 + 252 + 252;
        Check.due("PART", box.device(5), part);
        box = Check.ran(6, "lda #255\nsta 4086\nsta 4085\nidl #250\nidl #250\nstz 4086\nnop");
        Check.due("at once, by the write's first cycle", box.device(6), 1);
        Check.due("PART", box.device(5), 4);
        box.run(1);
        Check.due("PART goes on", box.device(5), 6);
        Check.due("ROW", box.device(6), 1);
    }

    private static void drumGoesRound() {
        Check.sentence("ROW is one more (modulo 64)");
        BelfryBox box = Check.program("lda #1\nsta 4085\nidl #249\nbra .-2");
        box.drum(63, 1);
        box.run(2);
        // 5 cycles, then 251 and 3 in turns: 504 of them end row 62, 512 row 63.
        box.run(3);
        Check.due("ROW 63", box.device(6), (5 + 251 + 3 + 251) / 8 % 64);
        Check.due("it is the last", box.device(6), 63);
        Check.due("its PINS", box.device(20), 1);
        Check.due("CAME", box.device(7), 2);
        box.run(1);
        Check.due("ROW 0 again", box.device(6), 0);
        Check.due("PART", box.device(5), 1);
    }

    private static void drumPins() {
        Check.sentence("bit 1 of CAME is 1 if this ROW has PINS (not 0)");
        for (int pins : new int[] {0, 1, 128, 255}) {
            BelfryBox box = Check.program("lda #1\nsta 4085\nnop\nnop\nidl #4\nnop");
            box.drum(1, pins);
            box.drum(0, 255 - pins);
            box.run(3);
            Check.due("ahead of ROW 1", box.device(7), 0);
            box.run(1);
            Check.due("at ROW 1 with PINS " + pins, box.device(7), pins == 0 ? 0 : 2);
            Check.due("PINS", box.device(20), pins);
            box.run(2);
            Check.due("at ROW 2 no more comes", box.device(7), pins == 0 ? 0 : 2);
            Check.due("ROW", box.device(6), 2);
        }
    }

    private static void bellComes() {
        Check.sentence("Each bell that rests, rests one less; when that is 0 bit 2 of CAME is 1");
        BelfryBox box = Check.ran(2, "sta 4087\nidl #92\nnop\nlda #255\nsta 4092\nidl #255");
        Check.due("one cycle is left", box.device(12), 1);
        Check.due("CAME", box.device(7), 0);
        box.run(1);
        Check.due("none is left", box.device(12), 0);
        Check.due("bit 2 of CAME", box.device(7), 4);
        box.run(3);
        Check.due("it does not come again", box.device(7), 0);
        Check.due("nor does a rest go below 0", box.device(12), 0);
        box = Check.ran(2, "sta 4087\nidl #93");
        Check.due("with the last cycle of a step", box.device(12) * 10 + box.device(7), 4);
        box = Check.program("sta 4087\nina\nbra .-5");
        box.run(24);
        for (int bell = 0; bell < 8; bell++) {
            Check.due("rest of bell " + bell, box.device(12 + bell), 100 - 10 * (8 - bell));
        }
    }

    private static void watchRunsOut() {
        Check.sentence("The watch, if it is not 0, is one less; when that is 0, behind the STEP there is a RESET");
        BelfryBox box = Check.ran(3, "lda #1\nsta 4091\nidl #56\nnop");
        Check.due("one is left", box.device(9), 1);
        Check.due("no RESET", box.about(5), 0);
        box.run(1);
        Check.due("a RESET", box.about(5), 1);
        Check.due("P", box.register(4), 512);
        Check.due("all cycles of the STEP passed", box.register(7), 2 + 5 + 58 + 2);
        box = Check.ran(5, "lda #1\nldx #2\nldy #3\nsta 4091\nidl #57");
        Check.due("with the last cycle", box.about(5), 1);
        Check.due("A, X and Y", box.register(0) + box.register(1) + box.register(2), 0);
        box = Check.ran(3, "lda #1\nsta 4091\nidl #255");
        Check.due("one RESET for many cycles", box.about(5), 1);
        Check.due("WATCH stays 0", box.device(9), 0);
        Check.due("the code did its work ahead of it", box.codes(248), 1);
        box = Check.ran(4, "lda #1\nsta 4091\nidl #50\njsr 700");
        Check.due("WATCH", box.device(9), 64 - 5 - 52 - 6);
        box = Check.ran(7, "lda #1\nsta 4091\nsta 4093\nidl #42\nsta 4082\ncli\nhlt");
        Check.due("behind an INTERRUPT", box.codes(256) * 10 + box.about(5), 11);
        Check.due("P behind it", box.register(4), 512);
        Check.due("S behind it", box.register(3), 255);
        box = Check.ran(4, "lda #1\nsta 4091\nidl #56\nhlt");
        Check.due("a RESET ends HALTED", box.register(6), 0);
        Check.due("and goes on", box.run(2), 2);
    }

    private static void watchOff() {
        Check.sentence("The watch, if it is not 0");
        BelfryBox box = Check.program("idl #255\nbra .-2");
        box.run(100);
        Check.due("WATCH", box.device(9), 0);
        Check.due("RESETS", box.about(5), 0);
        box = Check.program("lda #1\nsta 4091\nidl #40\nbra .-5");
        box.run(300);
        Check.due("a watch that is written again does not run out", box.about(5), 0);
    }

    private static final String RESET = "lda #200\nsta 4080\nsta 4082\nlda #1\nsta 4082\nlda #3\nsta 4086\nsta 4085\n"
            + "lda #9\nsta 4087\nsta 4087\nsta 4090\nlda #6\nsta 4093\nlda #1\nsta 4091\npsh #199\nplf\nidl #200\n"
            + "hlt";

    private static void resetSets() {
        Check.sentence("a RESET: a START, all of RUNS, TURNS, CAME, MASK are 0, RESETS is one more");
        BelfryBox box = Check.program(RESET);
        for (int row = 0; row < 64; row++) {
            box.drum(row, 1);
        }
        box.key(5);
        box.run(18);
        for (int what : new int[] {2, 3, 7, 8}) {
            Check.due("device " + what + " ahead", box.device(what) != 0, true);
        }
        box.run(1);
        for (int what : new int[] {2, 3, 7, 8}) {
            Check.due("device " + what, box.device(what), 0);
        }
        Check.due("RESETS", box.about(5), 1);
        int[] due = {0, 0, 0, 255, 512, 4, 0};
        for (int what = 0; what < 7; what++) {
            Check.due("register " + what, box.register(what), due[what]);
        }
    }

    private static void resetLeaves() {
        Check.sentence("a RESET: a START, all of RUNS, TURNS, CAME, MASK are 0 (and no more)");
        BelfryBox box = Check.program(RESET);
        box.key(5);
        box.run(19);
        int before = 2 + 5 + 5 + 2 + 5 + 2 + 5 + 5 + 2 + 5 + 5 + 5 + 2 + 5 + 2 + 5 + 3 + 3;
        Check.due("CYCLES", box.register(7), before + 202);
        Check.due("LOAD", box.device(0), 200);
        Check.due("COUNT", box.device(1), down(200, before + 202 - 2 - 5 - 5 - 2));
        Check.due("SPEED", box.device(4), 3);
        Check.due("PART and ROW", box.device(6) * 32 + box.device(5), 5 + 2 + 5 + 5 + 5 + 2 + 5 + 2 + 5 + 6 + 202);
        Check.due("KEYS", box.device(11) * 1000 + box.device(21), 1005);
        Check.due("RING", box.about(6), 1);
        Check.due("STRIP", box.strip(0), 9);
        Check.due("MUFFLED", box.about(3), 1);
        Check.due("codes", box.codes(131), 10);
        Check.due("KEPT", box.about(2), 19);
        BelfryBox resting = Check.ran(5, "lda #1\nsta 4091\nlda #$ff\nsta 4087\nidl #60");
        Check.due("RESETS", resting.about(5), 1);
        Check.due("rests", resting.device(19), 720 - 5 - 62);
        BelfryBox seed = Check.ran(4, "lda #1\nsta 4091\nlda 4094\nidl #60");
        Check.due("SEED", seed.device(10), 1103527590);
    }

    private static void atFirst() {
        Check.sentence("At first (and behind restart()) .. are 0, SEED 1, no KEYS, RING and STRIP empty; all PINS are "
                + "0 at first, and stay");
        BelfryBox box = new BelfryBox();
        for (int what = 0; what < 37; what++) {
            Check.due("device " + what + " at first", box.device(what), what == 10 ? 1 : 0);
        }
        BelfryBox turned = Check.program("lda #1\nsta 4085\nidl #249\nbra .-2");
        turned.run(150);
        Check.due("no ROW has PINS at first", turned.device(7), 0);
        BelfryBox busy = Check.program(RESET);
        busy.drum(0, 77);
        busy.drum(63, 78);
        busy.key(5);
        busy.run(18);
        Check.due("CYCLES ahead of it", busy.register(7) > 0, true);
        busy.restart();
        for (int what = 0; what < 37; what++) {
            Check.due("device " + what + " restarted", busy.device(what), what == 10 ? 1 : what == 20 ? 77 : 0);
        }
        for (int what = 2; what < 8; what++) {
            Check.due("about " + what + " restarted", busy.about(what), 0);
        }
        Check.due("CYCLES", busy.register(7), 0);
        Check.due("RING and STRIP", busy.ring(0, 0) + busy.strip(0), 2 * NONE);
        busy.poke(512, 192);
        busy.poke(513, 254);
        busy.key(6);
        Check.due("the first KEY", busy.device(21), 6);
    }
}
