import java.util.function.BooleanSupplier;
import java.util.function.IntSupplier;

/** Promises 1 to 22 at their edges, a sentence at a time: least and greatest arguments, and calls that are refused. */
public final class CallEdgesTest {
    private static final int NONE = BelfryBox.NONE;
    private static final int LEAST = Integer.MIN_VALUE;
    private static final int GREATEST = Integer.MAX_VALUE;

    public static void main(String[] args) {
        newObject();
        feed();
        feedRefused();
        end();
        endCutsAToken();
        endRefused();
        assemble();
        assembleFaulted();
        fault();
        name();
        restart();
        peek();
        poke();
        pokeRefused();
        key();
        keyRefused();
        drum();
        drumRefused();
        stop();
        stopRefused();
        stopsStay();
        run();
        runRefused();
        runEnds();
        runEndsByTheFirst();
        back();
        backInTheStore();
        backRefused();
        backKept();
        register();
        device();
        about();
        codes();
        ring();
        strip();
        text();
        out();
        Check.end();
    }

    /** A box in which all that can be asked of has been used: kept steps, keys, rings, names, a fault, a text .. */
    private static BelfryBox used() {
        BelfryBox box = Check.program("start: lda #200\nsta 4080\nsta 4087\nsta 4090\nlda #1\nsta 4082\nsta 4085\n"
                + "loop: lda 4094\nsta 300\ninx\nbra loop\nmany = 5");
        box.drum(1, 3);
        box.key(9);
        box.key(8);
        box.stop(9, true);
        box.run(40);
        box.text(512);
        Check.feed(box, "nop ?");
        box.assemble();
        Check.feed(box, "byte 1\nbyte 2");
        return box;
    }

    private static void refused(BelfryBox box, String call, IntSupplier answer) {
        String before = Check.whole(box);
        Check.due(call, answer.getAsInt(), NONE);
        Check.due("all that can be asked, behind " + call, Check.whole(box), before);
    }

    private static void isFalse(BelfryBox box, String call, BooleanSupplier answer) {
        String before = Check.whole(box);
        Check.due(call, answer.getAsBoolean(), false);
        Check.due("all that can be asked, behind " + call, Check.whole(box), before);
    }

    private static void newObject() {
        Check.sentence("1: An empty STORE, restarted; an empty TAPE");
        BelfryBox box = new BelfryBox();
        String first = Check.whole(box);
        Check.due("an empty STORE", Check.store(box).replace("\0", "").length(), 0);
        Check.due("P", box.register(4), 0);
        Check.due("I", box.register(5), 4);
        Check.due("an empty TAPE", box.about(10), 0);
        box.restart();
        Check.due("restarted already", Check.whole(box), first);
    }

    private static void feed() {
        Check.sentence("2: Twenty bytes come behind the TAPE, four of each number, the highest first: how many it has");
        BelfryBox box = new BelfryBox();
        // text "a and a byte 128
        Check.due("the first", box.feed(0x74657874, 0x20226180, 0, 0, 0), 20);
        Check.due("a byte with bit 7", box.assemble(), NONE);
        Check.due("at the byte 128", box.fault(1), 7);
        int[][] places = {{0x3fffffff, 0}, {0x20bfffff, 1}, {0x2020ffff, 2}, {0x202020ff, 3}, {-1, 0}, {LEAST, 0}};
        for (int[] one : places) {
            for (int k = 0; k < 5; k++) {
                int[] n = {0x20202020, 0x20202020, 0x20202020, 0x20202020, 0x20202020};
                n[k] = one[0];
                Check.due("feed", box.feed(n[0], n[1], n[2], n[3], n[4]), 20);
                Check.due("a byte that begins no token", box.assemble(), NONE);
                Check.due("its place", box.fault(1), 4 * k + one[1]);
            }
        }
    }

    private static void feedRefused() {
        Check.sentence("2: NONE if there would be more than 6000");
        String remark = "byte 7;" + "x".repeat(5973);
        for (int length = 5981; length <= 6000; length++) {
            BelfryBox box = new BelfryBox();
            Check.feed(box, remark);
            Check.due("5980 and 20", box.feed(0x78787878, 0x78787878, 0x78787878, 0x78787878, 0x78787878), 6000);
            box.end(length);
            refused(box, "feed behind " + length, () -> box.feed(0x0a3f3f3f, 0x0a3f3f3f, 0x0a3f3f3f, 0, 0));
            Check.due("the TAPE's length", box.about(10), length);
            Check.due("the TAPE is as it was", box.assemble(), 1);
            Check.due("it is empty now", box.feed(0, 0, 0, 0, 0), 20);
        }
    }

    private static void end() {
        Check.sentence("3: The TAPE has its first n bytes alone: n");
        BelfryBox box = new BelfryBox();
        Check.due("0 of none", box.end(0), 0);
        Check.feed(box, "byte 1,2,3,4,5,6,7,8");
        Check.due("all", box.end(20), 20);
        Check.due("one less", box.end(19), 19);
        Check.due("some", box.end(8), 8);
        int blanks = 0x20202020;
        Check.due("what is fed comes behind those", box.feed(0x39202020, blanks, blanks, blanks, blanks), 28);
        Check.due("byte 1,29", box.assemble(), 2);
        Check.due("the second one", box.peek(1), 29);
        Check.feed(box, "byte 1");
        Check.due("none", box.end(0), 0);
        Check.due("an empty text", box.assemble(), 0);
        Check.due("nothing is laid", box.peek(0), 0);
    }

    private static void endCutsAToken() {
        Check.sentence("3: The TAPE has its first n bytes alone");
        for (String marked : new String[] {"text \"abc|\"", "text \"|abc\"", "byte '|a", "byte $|f", "lda (5|)", "a|=5",
            "lda 5,|x", "lda |5", "byte 1,|2", "psh |#5"}) {
            BelfryBox box = new BelfryBox();
            int place = marked.indexOf('|');
            Check.feed(box, marked.replace("|", ""));
            Check.due("end " + marked, box.end(place), place);
            Check.due("assemble " + marked, box.assemble(), NONE);
            Check.due("SYNTAX in " + marked, box.fault(0), 1);
            Check.due("at the text's end in " + marked, box.fault(1), place);
        }
        BelfryBox box = new BelfryBox();
        Check.feed(box, "byte 12");
        box.end(6);
        box.assemble();
        Check.due("one digit of two", box.peek(0), 1);
        Check.feed(box, "byte $12");
        box.end(7);
        box.assemble();
        Check.due("one digit of two behind $", box.peek(0), 1);
        Check.feed(box, "a=7\nbyte ab");
        box.end(10);
        box.assemble();
        Check.due("one letter of two", box.peek(0), 7);
        Check.feed(box, "byte 1\nbyte 2");
        box.end(7);
        Check.due("one line of two", box.assemble(), 1);
    }

    private static void endRefused() {
        Check.sentence("3: NONE if it has fewer, or n is below 0");
        BelfryBox box = used();
        int length = box.about(10);
        for (int n : new int[] {length + 1, length + 20, 6000, 6001, GREATEST, -1, -2, LEAST}) {
            refused(box, "end " + n, () -> box.end(n));
        }
        Check.due("the TAPE is as it was", box.assemble(), 2);
        BelfryBox empty = new BelfryBox();
        refused(empty, "end 1 of an empty TAPE", () -> empty.end(1));
        refused(empty, "end -1 of an empty TAPE", () -> empty.end(-1));
    }

    private static void assemble() {
        Check.sentence("4: the TAPE is read as a text (and is empty then): the address behind the last line; the STORE "
                + "has what was laid and 0 else, names are the text's, and it is restarted");
        BelfryBox box = used();
        box.poke(4000, 9);
        Check.due("the address", box.assemble(), 2);
        Check.due("the TAPE", box.about(10), 0);
        Check.due("the STORE", Check.store(box).replace("\0", ""), "\1\2");
        Check.due("names", box.about(8), 0);
        Check.due("fault", box.fault(0), 0);
        BelfryBox other = new BelfryBox();
        other.drum(1, 3);
        Check.due("restarted", Check.state(box), Check.state(other));
        Check.due("KEPT", box.about(2), 0);
        Check.due("an empty text", box.assemble(), 0);
        Check.due("lays nothing", Check.store(box).replace("\0", ""), "");
        Check.due("the greatest address", Check.assemble(box, "space 4080"), 4080);
    }

    private static void assembleFaulted() {
        Check.sentence("4: NONE when it has a FAULT (all else stays)");
        String[] texts = {"?", "a=1\na=2", "byte none", "byte 1\nbyte 256", "byte 1,2,3\norg 4079\nword 1",
            "org 4080", "a: org b"};
        for (String text : texts) {
            BelfryBox box = used();
            box.end(0);
            Check.assemble(box, "nop ?");
            int kept = box.about(2);
            String before = Check.whole(box).replaceAll(" fault=\\S+", "");
            Check.due("assemble " + text, Check.assemble(box, text), NONE);
            Check.due("all else behind " + text, Check.whole(box).replaceAll(" fault=\\S+", ""), before);
            Check.due("the TAPE is empty", box.about(10), 0);
            Check.due("the kept steps can be taken back", box.back(kept), kept);
        }
    }

    private static void fault() {
        Check.sentence("5: its FAULT (what 0; 0 none), its place (1; NONE without). NONE for another what, or ahead "
                + "of any");
        BelfryBox box = new BelfryBox();
        int[] others = {-1, 2, 3, LEAST, GREATEST};
        for (int what : new int[] {0, 1, -1, 2, LEAST, GREATEST}) {
            Check.due("ahead of any: " + what, box.fault(what), NONE);
        }
        box.restart();
        box.run(5);
        Check.due("a restart is none", box.fault(0), NONE);
        box.assemble();
        Check.due("none", box.fault(0), 0);
        Check.due("no place", box.fault(1), NONE);
        for (int what : others) {
            Check.due("another what " + what, box.fault(what), NONE);
        }
        Check.assemble(box, "?");
        Check.due("SYNTAX", box.fault(0), 1);
        Check.due("the place 0", box.fault(1), 0);
        for (int what : others) {
            Check.due("another what " + what + " of a fault", box.fault(what), NONE);
        }
        Check.assemble(box, "a:");
        Check.due("of the latest", box.fault(0), 0);
        Check.due("its place too", box.fault(1), NONE);
    }

    private static void name() {
        Check.sentence("6: Of name k (from 0 on, as they were told ..) .. 0 if there is none such");
        BelfryBox box = new BelfryBox();
        Check.due("ahead of any text", box.name(0, 0) + box.name(0, 1) + box.name(0, 2), 0);
        Check.assemble(box, "byte 1\nfirst: nop\n  last = 9");
        for (int[] one : new int[][] {{0, 0, 1}, {0, 1, 7}, {0, 2, 0}, {1, 0, 9}, {1, 1, 20}, {1, 2, 1}}) {
            Check.due("name " + one[0] + ", " + one[1], box.name(one[0], one[1]), one[2]);
        }
        for (int k : new int[] {-1, 2, 59, 60, 61, LEAST, GREATEST}) {
            for (int what = -1; what < 4; what++) {
                Check.due("name " + k + ", " + what, box.name(k, what), 0);
            }
        }
        for (int what : new int[] {-1, 3, LEAST, GREATEST}) {
            Check.due("name 0, " + what, box.name(0, what), 0);
            Check.due("name 1, " + what, box.name(1, what), 0);
        }
        Check.assemble(box, "other = 5\n?");
        Check.due("a text with a FAULT tells none", box.name(1, 0), 9);
        Check.due("so it can be told again", Check.assemble(box, "other = 5"), 0);
        Check.assemble(box, "");
        Check.due("a text without names", box.name(0, 1), 0);
    }

    private static void restart() {
        Check.sentence("7: A START, and devices as at first (but PINS); no code was done, none is KEPT");
        BelfryBox box = used();
        String store = Check.store(box);
        box.restart();
        for (int c = 0; c <= 256; c++) {
            Check.due("codes " + c, box.codes(c), 0);
        }
        Check.due("KEPT", box.about(2), 0);
        refused(box, "back 1", () -> box.back(1));
        BelfryBox fresh = Check.program("");
        fresh.drum(1, 3);
        Check.due("registers and devices", Check.state(box), Check.state(fresh));
        Check.due("the STORE stays", Check.store(box).equals(store), true);
        Check.due("names stay", box.about(8), 3);
        Check.due("the FAULT stays", box.fault(0), 1);
        Check.due("the TAPE stays", box.about(10), 13);
        Check.due("STOPS stay", box.about(9), 1);
        Check.due("OUT stays", Check.out(box), "lda #200");
    }

    private static void peek() {
        Check.sentence("8: The BYTE at an address, of the STORE itself. NONE for others");
        BelfryBox box = used();
        box.poke(0, 7);
        box.poke(4079, 255);
        Check.due("peek 0", box.peek(0), 7);
        Check.due("peek 4079", box.peek(4079), 255);
        for (int a = 4080; a < 4096; a++) {
            Check.due("a port " + a, box.peek(a), 0);
        }
        Check.due("no key goes", box.device(11), 2);
        for (int a : new int[] {-1, -4096, 4096, 4097, 8192, LEAST, GREATEST}) {
            refused(box, "peek " + a, () -> box.peek(a));
        }
    }

    private static void poke() {
        Check.sentence("9: v comes to address a: true");
        BelfryBox box = new BelfryBox();
        for (int[] one : new int[][] {{0, 0}, {0, 255}, {4079, 0}, {4079, 255}, {2000, 128}}) {
            Check.due("poke " + one[0], box.poke(one[0], one[1]), true);
            Check.due("peek " + one[0], box.peek(one[0]), one[1]);
        }
        Check.due("one beside", box.peek(1) + box.peek(4078) + box.peek(1999) + box.peek(2001), 0);
        Check.due("P stays", box.register(4), 0);
    }

    private static void pokeRefused() {
        Check.sentence("9: False, and nothing is done, if a is not 0 .. 4079 or v no BYTE");
        BelfryBox box = used();
        for (int a : new int[] {-1, 4080, 4088, 4095, 4096, LEAST, GREATEST}) {
            isFalse(box, "poke " + a, () -> box.poke(a, 1));
            isFalse(box, "poke no byte at " + a, () -> box.poke(a, 256));
        }
        for (int v : new int[] {-1, 256, 511, LEAST, GREATEST}) {
            isFalse(box, "poke " + v + " at 0", () -> box.poke(0, v));
            isFalse(box, "poke " + v + " at 4079", () -> box.poke(4079, v));
        }
    }

    private static void key() {
        Check.sentence("10: A KEY comes behind those that wait, bit 3 of CAME is 1: how many wait");
        BelfryBox box = new BelfryBox();
        Check.due("the least", box.key(0), 1);
        Check.due("bit 3", box.device(7), 8);
        Check.due("the greatest", box.key(255), 2);
        Check.due("in their order", box.device(21) * 1000 + box.device(22), 255);
        BelfryBox other = Check.ran(2, "lda #1\nsta 4082");
        other.key(5);
        Check.due("other bits of CAME stay", other.device(7), 9);
    }

    private static void keyRefused() {
        Check.sentence("10: NONE, and nothing is done, if 16 wait or v is no BYTE");
        BelfryBox box = used();
        for (int v : new int[] {-1, 256, 511, LEAST, GREATEST}) {
            refused(box, "key " + v, () -> box.key(v));
        }
        BelfryBox full = Check.program("lda #8\nsta 4092\nnop");
        for (int i = 0; i < 16; i++) {
            full.key(50 + i);
        }
        full.run(3);
        Check.due("bit 3 is no more", full.device(7), 0);
        refused(full, "a 17th key", () -> full.key(5));
        refused(full, "a 17th that is no BYTE", () -> full.key(256));
        Check.due("bit 3 does not come", full.device(7), 0);
        Check.due("KEPT", full.about(2), 3);
    }

    private static void drum() {
        Check.sentence("11: Row 0 .. 63 of the drum has these PINS (a BYTE): true");
        BelfryBox box = Check.program("lda #1\nsta 4085\nidl #1\nidl #6\nbra .-2");
        for (int row = 0; row < 64; row++) {
            Check.due("drum " + row, box.drum(row, 3 * row + 60), true);
        }
        box.run(3);
        for (int row = 1; row <= 64; row++) {
            Check.due("ROW", box.device(6), row % 64);
            Check.due("its PINS", box.device(20), 3 * (row % 64) + 60);
            int now = box.device(6);
            for (int i = 0; i < 8 && box.device(6) == now; i++) {
                box.run(1);
            }
        }
        Check.due("PINS 0", box.drum(1, 0), true);
        Check.due("PINS 255", box.drum(1, 255), true);
        Check.due("PINS of ROW 1", box.device(20), 255);
    }

    private static void drumRefused() {
        Check.sentence("11: False: there is none such");
        BelfryBox box = used();
        for (int row : new int[] {-1, 64, 65, 128, LEAST, GREATEST}) {
            isFalse(box, "row " + row, () -> box.drum(row, 1));
        }
        for (int pins : new int[] {-1, 256, LEAST, GREATEST}) {
            isFalse(box, "pins " + pins + " of row 0", () -> box.drum(0, pins));
            isFalse(box, "pins " + pins + " of ROW", () -> box.drum(box.device(6), pins));
            isFalse(box, "pins " + pins + " of row 64", () -> box.drum(64, pins));
        }
    }

    private static void stop() {
        Check.sentence("12: There is a STOP at an address 0 .. 4095, or not: how many there are");
        BelfryBox box = new BelfryBox();
        Check.due("one at 0", box.stop(0, true), 1);
        Check.due("one at 4095", box.stop(4095, true), 2);
        Check.due("a second one at 0 is none more", box.stop(0, true), 2);
        Check.due("none at 5: as before", box.stop(5, false), 2);
        Check.due("not at 0", box.stop(0, false), 1);
        Check.due("not at 0 again", box.stop(0, false), 1);
        Check.due("not at 4095", box.stop(4095, false), 0);
        Check.due("none of none", box.stop(4095, false), 0);
        Check.due("about(9)", box.about(9), 0);
    }

    private static void stopRefused() {
        Check.sentence("12: NONE: no such address, or it would be a 17th");
        BelfryBox box = used();
        for (int a : new int[] {-1, 4096, 4097, LEAST, GREATEST}) {
            refused(box, "stop " + a, () -> box.stop(a, true));
            refused(box, "no stop " + a, () -> box.stop(a, false));
        }
        box.stop(9, false);
        for (int i = 1; i <= 16; i++) {
            Check.due("stop " + i, box.stop(514 + 2 * i, true), i);
        }
        refused(box, "a 17th", () -> box.stop(512, true));
        refused(box, "a 17th at no address", () -> box.stop(4096, true));
        Check.due("a second one with 16", box.stop(516, true), 16);
        Check.due("none to lift with 16", box.stop(512, false), 16);
        Check.due("one is lifted", box.stop(546, false), 15);
        Check.due("another comes", box.stop(512, true), 16);
        refused(box, "a 17th again", () -> box.stop(546, true));
    }

    private static void stopsStay() {
        Check.sentence("12: (They stay ..)");
        BelfryBox box = Check.program("nop\nnop\nnop\nnop\nhlt");
        for (int a : new int[] {514, 516, 518}) {
            box.stop(a, true);
        }
        box.stop(516, false);
        for (int round = 0; round < 3; round++) {
            Check.due("to the first", box.run(9), 1);
            Check.due("to the last", box.run(9), 2);
            Check.due("P", box.register(4), 518);
            box.restart();
        }
        Check.assemble(box, "org 4074\nword 0,0,512\norg 512\nnop\nnop\nnop\nnop");
        Check.due("behind another text", box.run(9), 1);
        box.back(1);
        Check.due("behind back", box.about(9), 2);
    }

    private static void run() {
        Check.sentence("13: At most n STEPS (1 .. 2000): how many were done");
        BelfryBox box = Check.program("bra .");
        Check.due("1", box.run(1), 1);
        Check.due("2000", box.run(2000), 2000);
        Check.due("1999", box.run(1999), 1999);
        Check.due("all", box.codes(192), 4000);
        Check.due("cycles", box.register(7), 12000);
    }

    private static void runRefused() {
        Check.sentence("13: NONE for another n");
        BelfryBox box = used();
        for (int n : new int[] {0, -1, 2001, 2002, LEAST, GREATEST}) {
            refused(box, "run " + n, () -> box.run(n));
        }
        BelfryBox fresh = new BelfryBox();
        refused(fresh, "run 0 ahead of any", () -> fresh.run(0));
    }

    private static void ended(String what, BelfryBox box, int n, int steps, int why) {
        Check.due(what + ": steps", box.run(n), steps);
        Check.due(what + ": about(1)", box.about(1), steps);
        Check.due(what + ": why", box.about(0), why);
    }

    private static void runEnds() {
        Check.sentence("13: It ends ahead of a STEP: (but of its first one) there is a STOP at P; HALTED; ILLEGAL");
        BelfryBox box = Check.program("nop\nnop\nhlt\nnop");
        box.stop(512, true);
        box.stop(514, true);
        ended("a STOP at the first P ends nothing", box, 9, 1, 1);
        ended("nor does the one it stands at", box, 9, 2, 2);
        ended("HALTED ends it ahead of the first", box, 9, 0, 2);
        box.restart();
        ended("with the last step all were done", box, 1, 1, 0);
        box.restart();
        box.stop(514, false);
        ended("though HALTED by it", box, 3, 3, 0);
        BelfryBox loop = Check.program("bra .");
        loop.stop(512, true);
        ended("a STOP at a code that goes to itself", loop, 9, 1, 1);
        BelfryBox illegal = Check.program("nop\nbyte 216,32");
        ended("one ahead of ILLEGAL", illegal, 1, 1, 0);
        ended("ILLEGAL ends it ahead of the first", illegal, 1, 0, 3);
        ended("again", illegal, 2000, 0, 3);
        BelfryBox behind = Check.program("nop\nbyte 216");
        ended("the byte behind a code counts", behind, 9, 9, 0);
        BelfryBox port = Check.program("jmp 4088");
        port.stop(4090, true);
        ended("a STOP at a port", port, 9, 2, 1);
    }

    private static void runEndsByTheFirst() {
        Check.sentence("13: It ends, by the first of these .. the code that would be done (no INTERRUPT comes)");
        BelfryBox both = Check.program("nop\nhlt");
        both.stop(516, true);
        ended("a STOP where it is HALTED", both, 9, 2, 1);
        ended("then HALTED", both, 9, 0, 2);
        BelfryBox stopped = Check.program("nop\nbyte 216,32");
        stopped.stop(514, true);
        ended("a STOP at an ILLEGAL code", stopped, 9, 1, 1);
        BelfryBox halted = Check.program("hlt\nbyte 216,32");
        ended("HALTED ahead of an ILLEGAL code", halted, 9, 1, 2);
        BelfryBox comes = Check.program("lda #8\nsta 4093\ncli\nbyte 216,32\norg 1024\nrti");
        comes.key(1);
        ended("an INTERRUPT ahead of an ILLEGAL code", comes, 4, 4, 0);
        Check.due("it came", comes.codes(256), 1);
        ended("it comes as long as the LINE is on", comes, 4, 4, 0);
        Check.due("again and again", comes.codes(256), 3);
        BelfryBox held = Check.program("lda #8\nsta 4093\nbyte 216,32");
        held.key(1);
        ended("none with I 1", held, 9, 2, 3);
        BelfryBox stopAtInterrupt = Check.program("lda #8\nsta 4093\ncli\nnop");
        stopAtInterrupt.key(1);
        stopAtInterrupt.stop(519, true);
        stopAtInterrupt.stop(1024, true);
        ended("a STOP at P ahead of an INTERRUPT", stopAtInterrupt, 9, 3, 1);
        ended("then the INTERRUPT, and a STOP where it goes", stopAtInterrupt, 9, 1, 1);
        BelfryBox asleep = Check.ran(4, "lda #8\nsta 4093\ncli\nhlt");
        asleep.key(1);
        ended("no INTERRUPT comes to one that is HALTED", asleep, 9, 0, 2);
    }

    private static void back() {
        Check.sentence("14: The n STEPS done last are taken back: n");
        BelfryBox box = used();
        BelfryBox other = used();
        int kept = box.about(2);
        Check.due("kept", kept, 40);
        Check.due("1", box.back(1), 1);
        Check.due("2", box.back(2), 2);
        Check.due("others", box.back(kept - 3), kept - 3);
        Check.due("all at once", other.back(kept), kept);
        Check.due("the same", Check.state(box), Check.state(other));
        Check.due("the STORE too", Check.store(box).equals(Check.store(other)), true);
        Check.due("none is KEPT", box.about(2), 0);
        other.restart();
        other.key(9);
        other.key(8);
        Check.due("as ahead of the first", Check.state(box), Check.state(other));
    }

    private static void backInTheStore() {
        Check.sentence("14: The n STEPS done last are taken back: what they wrote over");
        BelfryBox box = Check.ran(8, "lda #7\nsta 300\nlda #9\nsta 300\ninc 300\nswp 300\njsr deep\ndeep: trp #5\n"
                + "org 507\nbyte 11,12,13,14,15");
        int[][] due = {{9, 2}, {9, 2}, {9, 15}, {10, 15}, {9, 15}, {7, 15}, {7, 15}, {0, 15}, {0, 15}};
        for (int[] one : due) {
            Check.due("byte 300", box.peek(300), one[0]);
            Check.due("byte 511", box.peek(511), one[1]);
            box.back(1);
        }
        for (int a = 507; a < 512; a++) {
            Check.due("byte " + a, box.peek(a), a - 507 + 11);
        }
        BelfryBox twice = Check.ran(3, "ldx #1\ntxs\ntrp #5\norg 256\nbyte 11,12\norg 511\nbyte 13");
        Check.due("pushed round the end", twice.peek(257) * 10000 + twice.peek(256) * 100 + twice.peek(511), 20604);
        twice.back(1);
        Check.due("taken back", twice.peek(257) * 10000 + twice.peek(256) * 100 + twice.peek(511), 121113);
    }

    private static void backRefused() {
        Check.sentence("14: NONE, and nothing is done, if n is below 1 or more than are KEPT");
        BelfryBox box = used();
        for (int n : new int[] {0, -1, LEAST, 41, 42, 256, 257, GREATEST}) {
            refused(box, "back " + n, () -> box.back(n));
        }
        Check.due("KEPT yet", box.back(40), 40);
        refused(box, "back 1 of none", () -> box.back(1));
        BelfryBox fresh = new BelfryBox();
        refused(fresh, "back 1 of a new one", () -> fresh.back(1));
        refused(fresh, "back 0 of a new one", () -> fresh.back(0));
    }

    private static void backKept() {
        Check.sentence("14: the latest 256 at most, since restart(), or assemble(), poke(), key(), drum() did "
                + "something");
        BelfryBox box = Check.program("inx\nbra .-2");
        box.run(255);
        Check.due("255", box.about(2), 255);
        refused(box, "back 256 of 255", () -> box.back(256));
        box.run(1);
        Check.due("256", box.about(2), 256);
        box.run(1);
        Check.due("256 yet", box.about(2), 256);
        refused(box, "back 257", () -> box.back(257));
        Check.due("back 256", box.back(256), 256);
        Check.due("one step is left", box.codes(216) + box.codes(192), 1);
        Check.due("none is KEPT", box.about(2), 0);
        box.run(3);
        box.poke(700, 0);
        Check.due("poke, though the byte is the same", box.about(2), 0);
        box.run(3);
        box.drum(5, 0);
        Check.due("drum, though the PINS are the same", box.about(2), 0);
        box.run(3);
        box.key(0);
        Check.due("key", box.about(2), 0);
        box.run(3);
        box.restart();
        Check.due("restart", box.about(2), 0);
        box.run(3);
        Check.assemble(box, "bra .");
        Check.due("assemble", box.about(2), 0);
        box.run(3);
        Check.assemble(box, "?");
        box.stop(5, true);
        box.text(5);
        box.run(0);
        box.back(9);
        Check.due("others leave them", box.about(2), 3);
        BelfryBox reset = Check.ran(4, "lda #1\nsta 4091\nidl #60\nnop");
        Check.due("a RESET leaves them", reset.about(2), 4);
        Check.due("and is taken back", reset.back(4) + reset.about(5), 4);
    }

    private static void register() {
        Check.sentence("15: 0 A, 1 X, 2 Y, 3 S, 4 P, 5 F, 6 1 if it is HALTED, 7 CYCLES; 0 for others");
        BelfryBox box = Check.ran(6, "ldx #2\nldy #3\npsh #9\nsec\nlda #1\nhlt");
        int[] due = {1, 2, 3, 254, 524, 5, 1, 13};
        for (int what = 0; what < 8; what++) {
            Check.due("register " + what, box.register(what), due[what]);
        }
        for (int what : new int[] {-1, 8, 9, 37, LEAST, GREATEST}) {
            Check.due("register " + what, box.register(what), 0);
        }
    }

    private static void device() {
        Check.sentence("16: .. 11 KEYS that wait, 12 .. 19 how long the bells rest, 20 the PINS of ROW, 21 .. 36 the "
                + "KEYS (0 without), 0 for others");
        BelfryBox box = Check.program("lda #$fb\nldx #0\nsta 4087\nina\nsta 4087\ninx\nlda #$ff\nsta 4087\nstx 4087");
        for (int i = 0; i < 16; i++) {
            box.key(200 + i);
        }
        box.drum(0, 77);
        box.run(9);
        int[] rests = {0, 100 - 5, 0, 720 - 5 - 2 - 5 - 2 - 2 - 5 - 5, 720 - 5 - 2 - 2 - 5 - 5, 0, 0, 720 - 5 - 5};
        for (int bell = 0; bell < 8; bell++) {
            Check.due("bell " + bell, box.device(12 + bell), rests[bell]);
        }
        Check.due("KEYS", box.device(11), 16);
        Check.due("PINS", box.device(20), 77);
        Check.due("the first KEY", box.device(21), 200);
        Check.due("the last KEY", box.device(36), 215);
        for (int what : new int[] {-1, 37, 38, 64, LEAST, GREATEST}) {
            Check.due("device " + what, box.device(what), 0);
        }
        BelfryBox one = new BelfryBox();
        one.key(255);
        Check.due("one KEY", one.device(21), 255);
        for (int what = 22; what <= 36; what++) {
            Check.due("no KEY at " + what, one.device(what), 0);
        }
    }

    private static void about() {
        Check.sentence("17: 0 why it ended (.. 0 ahead of any), 1 how many STEPS .. 0 for others");
        BelfryBox fresh = new BelfryBox();
        for (int what = 0; what <= 10; what++) {
            Check.due("about " + what + " at first", fresh.about(what), 0);
        }
        BelfryBox box = used();
        int[] due = {0, 40, 40, 0, 0, 0, 1, 1, 3, 1, 13};
        for (int what = 0; what <= 10; what++) {
            Check.due("about " + what, box.about(what), due[what]);
        }
        for (int what : new int[] {-1, 11, 12, LEAST, GREATEST}) {
            Check.due("about " + what, box.about(what), 0);
        }
    }

    private static void codes() {
        Check.sentence("18: How many STEPS with code c were done (256: INTERRUPTS); 0 for others");
        BelfryBox box = Check.program("lda #8\nsta 4093\ncli\njmp 600\norg 600\njsr (0),y\norg 1024\nlda #255\n"
                + "sta 4092\nrti");
        box.key(1);
        box.run(9);
        Check.due("lda #", box.codes(0), 2);
        Check.due("the last code, jsr ( ),y", box.codes(255), 1);
        Check.due("INTERRUPTS", box.codes(256), 1);
        int all = 0;
        for (int c = 0; c <= 256; c++) {
            all += box.codes(c);
        }
        Check.due("all steps", all, 9);
        for (int c : new int[] {-1, 257, 258, LEAST, GREATEST}) {
            Check.due("codes " + c, box.codes(c), 0);
        }
    }

    private static void ring() {
        Check.sentence("19: Entry i of the RING .. NONE if there is none such");
        BelfryBox box = used();
        Check.due("its CYCLES", box.ring(0, 0), 7);
        Check.due("its bell", box.ring(0, 1), 0);
        Check.due("its force", box.ring(0, 2), 25);
        for (int i : new int[] {-1, 1, 299, 300, 301, LEAST, GREATEST, GREATEST / 3 + 1}) {
            for (int what = 0; what < 3; what++) {
                int asked = what;
                refused(box, "ring " + i + ", " + what, () -> box.ring(i, asked));
            }
        }
        for (int what : new int[] {-1, 3, 4, LEAST, GREATEST}) {
            refused(box, "ring 0, " + what, () -> box.ring(0, what));
        }
        BelfryBox empty = new BelfryBox();
        refused(empty, "ring 0 of none", () -> empty.ring(0, 0));
    }

    private static void strip() {
        Check.sentence("20: BYTE i of the STRIP. NONE if there is none such");
        BelfryBox box = used();
        Check.due("the first", box.strip(0), 200);
        for (int i : new int[] {-1, 1, 199, 200, 201, LEAST, GREATEST}) {
            refused(box, "strip " + i, () -> box.strip(i));
        }
        BelfryBox empty = new BelfryBox();
        refused(empty, "strip 0 of none", () -> empty.strip(0));
    }

    private static void text() {
        Check.sentence("21: THE TEXT of the code at an address 0 .. 4095 is OUT: how many BYTES the code has. NONE "
                + "for others");
        BelfryBox box = used();
        for (int a : new int[] {-1, 4096, 4097, LEAST, GREATEST}) {
            refused(box, "text " + a, () -> box.text(a));
        }
        box.poke(0, 99);
        box.poke(4079, 4);
        Check.due("text 0", box.text(0), 3);
        Check.due("out", Check.out(box), "mul 0");
        Check.due("text 4079, its WORD in the ports", box.text(4079), 3);
        Check.due("out", Check.out(box), "lda 0,x");
        Check.due("text 4095, its byte at 0", box.text(4095), 2);
        Check.due("out", Check.out(box), "lda #99");
        for (int a = 4080; a < 4095; a++) {
            Check.due("text " + a, box.text(a), 2);
            Check.due("out", Check.out(box), "lda #0");
        }
        for (int code = 0; code < 256; code++) {
            box.poke(600, code);
            int way = code % 8;
            Check.due("BYTES of code " + code, box.text(600), way >= 3 && way <= 5 ? 3 : 2);
        }
    }

    private static void out() {
        Check.sentence("22: Byte i of OUT (empty at first). NONE if there is none such");
        BelfryBox box = new BelfryBox();
        for (int i : new int[] {0, 1, -1, LEAST, GREATEST}) {
            refused(box, "out " + i + " at first", () -> box.out(i));
        }
        box.poke(0, 253);
        box.poke(1, 255);
        box.poke(2, 255);
        box.text(0);
        Check.due("a long text", Check.out(box), "jsr 65535,y");
        Check.due("its first byte", box.out(0), 'j');
        Check.due("its last byte", box.out(10), 'y');
        for (int i : new int[] {11, 12, 16, -1, LEAST, GREATEST}) {
            refused(box, "out " + i, () -> box.out(i));
        }
        box.poke(0, 216);
        box.poke(1, 0);
        box.text(0);
        Check.due("a short text behind it", Check.out(box), "nop");
        refused(box, "out 3", () -> box.out(3));
        box.poke(1, 255);
        box.text(0);
        Check.due("the longest text", Check.out(box), "byte 216,255");
        refused(box, "out 12", () -> box.out(12));
    }
}
