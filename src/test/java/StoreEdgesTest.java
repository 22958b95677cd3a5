/** Section I at its edges, a sentence at a time: addresses modulo 4096, ports, the stack modulo 256, a START. */
public final class StoreEdgesTest {
    /** Behind a program: bytes that tell by which address they were found. */
    private static final String DATA = "\norg 0\nbyte 70,71\norg 254\nbyte 72\norg 300\nbyte 46";

    public static void main(String[] args) {
        bytesAtFirst();
        addressesOfWays();
        addressesWritten();
        placesOfCodes();
        placesByWords();
        placesPulled();
        portsBegin();
        portsLeaveTheStore();
        codesAtPorts();
        words();
        flags();
        start();
        push();
        pull();
        Check.end();
    }

    private static void bytesAtFirst() {
        Check.sentence("THE STORE has 4096 BYTES (0 .. 255), 0 at first");
        BelfryBox box = new BelfryBox();
        for (int a = 0; a < 4096; a++) {
            Check.due("peek " + a, box.peek(a), 0);
        }
        box.poke(5, 255);
        box.poke(6, 0);
        Check.due("the greatest byte", box.peek(5), 255);
        Check.due("the least byte", box.peek(6), 0);
    }

    private static void finds(String lines, int a) {
        int steps = lines.split("\n").length;
        Check.due("A of " + lines.replace('\n', '/'), Check.ran(steps, lines + DATA).register(0), a);
    }

    private static void addressesOfWays() {
        Check.sentence("all addresses are modulo 4096");
        finds("lda 4095", 0);
        finds("lda 4096", 70);
        finds("lda 4396", 46);
        finds("lda 61740", 46);
        finds("ldx #1\nlda 4095,x", 70);
        finds("ldx #2\nlda 4095,x", 71);
        finds("ldx #255\nlda 4141,x", 46);
        finds("ldx #255\nlda 65535,x", 72);
        finds("ldy #1\nlda 4095,y", 70);
        finds("ldy #255\nlda 4141,y", 46);
        finds("ldy #255\nlda 65535,y", 72);
        finds("lda #$11\nsta <9\nlda #$2c\nsta <8\nlda (8)", 46);
        finds("lda #$ff\nsta <9\nsta <8\nlda (8)", 0);
        finds("lda #$ff\nsta <9\nsta <8\nldy #1\nlda (8),y", 70);
        finds("lda #$ff\nsta <9\nsta <8\nldy #255\nlda (8),y", 72);
        finds("lda #$0f\nsta <9\nlda #$ff\nsta <8\nldy #2\nlda (8),y", 71);
    }

    private static void addressesWritten() {
        Check.sentence("all addresses are modulo 4096");
        Check.due("sta 4396", Check.ran(2, "lda #9\nsta 4396").peek(300), 9);
        Check.due("sta 4095,x", Check.ran(3, "lda #9\nldx #1\nsta 4095,x").peek(0), 9);
        Check.due("sta 65535,y", Check.ran(3, "lda #9\nldy #255\nsta 65535,y").peek(254), 9);
        Check.due("inc 4396", Check.ran(1, "inc 4396").peek(300), 1);
        Check.due("sty ( ),y", Check.ran(5, "lda #255\nsta <8\nsta <9\nldy #3\nsty (8),y").peek(2), 3);
    }

    private static void goes(String lines, int p) {
        int steps = lines.split("\norg")[0].split("\n").length + (lines.contains("org") ? 1 : 0);
        Check.due("P of " + lines.replace('\n', '/'), Check.ran(steps, lines).register(4), p);
    }

    private static void placesOfCodes() {
        Check.sentence("P an address (all addresses are modulo 4096)");
        goes("jmp 4095", 4095);
        goes("jmp 4096", 0);
        goes("jmp 65535", 4095);
        goes("ldx #255\njmp 65535,x", 254);
        goes("ldy #1\njmp 4095,y", 0);
        goes("lda #255\nsta <8\nsta <9\njmp (8)", 4095);
        goes("lda #255\nsta <8\nsta <9\nldy #2\njmp (8),y", 1);
        goes("jsr 4396", 300);
        goes("jmp 4072\norg 4072\nbra .+100", 76);
        goes("jmp 4072\norg 4072\nbra .+24", 0);
        goes("jmp 4072\norg 4072\nbra .+23", 4095);
        goes("jmp 0\norg 0\nbra .-1", 4095);
        goes("jmp 0\norg 0\nbra .", 0);
        goes("jmp 0\norg 0\nbra .-100", 3996);
        goes("jmp 4072\norg 4072\ncal .+100", 76);
        goes("jmp 0\norg 0\ncal .-100", 3996);
        BelfryBox behind = Check.ran(2, "jmp 4094");
        Check.due("P behind a code at 4094", behind.register(4), 0);
        behind = Check.ran(2, "jmp 4095\norg 0\nbyte 77");
        Check.due("P behind a code at 4095", behind.register(4), 1);
        Check.due("the byte behind 4095 stands at 0", behind.register(0), 77);
    }

    private static void placesByWords() {
        Check.sentence("P is the WORD at 4078 / 4076 / 4074 (all addresses are modulo 4096)");
        BelfryBox box = new BelfryBox();
        box.poke(4078, 255);
        box.poke(4079, 255);
        box.restart();
        Check.due("a START", box.register(4), 4095);
        BelfryBox trap = Check.program("trp #5");
        trap.poke(4074, 44);
        trap.poke(4075, 17);
        trap.run(1);
        Check.due("a trap", trap.register(4), 300);
        BelfryBox interrupt = Check.program("lda #8\nsta 4093\ncli");
        interrupt.poke(4076, 45);
        interrupt.poke(4077, 241);
        interrupt.key(1);
        interrupt.run(4);
        Check.due("an INTERRUPT", interrupt.register(4), 301);
        BelfryBox reset = Check.program("lda #1\nsta 4091\nidl #60");
        reset.poke(4079, 18);
        reset.run(3);
        Check.due("a RESET", reset.register(4), 512);
    }

    private static void placesPulled() {
        Check.sentence("PULL P's lower byte, its higher one (P modulo 4096)");
        goes("psh #255\npsh #255\nrts", 4095);
        goes("psh #16\npsh #0\nrts", 0);
        goes("psh #15\npsh #255\nrts", 4095);
        goes("psh #17\npsh #44\npsh #0\nrti", 300);
    }

    private static void portsBegin() {
        Check.sentence("4080 .. 4095 are PORTS: what is read or written there goes to devices");
        BelfryBox box = Check.ran(2, "lda #9\nsta 4079");
        Check.due("4079 is no port", box.peek(4079), 9);
        Check.due("LOAD", box.device(0), 0);
        box = Check.ran(2, "lda #9\nsta 4080");
        Check.due("4080 is the first", box.device(0), 9);
        box = Check.ran(3, "lda #9\nldx #1\nsta 4079,x");
        Check.due("by X too", box.device(0), 9);
        box = Check.ran(6, "lda #240\nsta <8\nlda #255\nsta <9\nlda #9\nsta (8)");
        Check.due("by a WORD above 4095 too", box.device(0), 9);
        box = Check.ran(3, "lda #9\nsta 4094\nldx 4094");
        Check.due("4094 is one", box.register(1), 9 * 1103515245 + 12345 >>> 16 & 255);
        box = Check.ran(4, "lda #9\nsta 4095\nsta 4096\nldx 4095");
        Check.due("4095 is the last", box.register(1), 0);
        Check.due("4096 is none", box.peek(0), 9);
    }

    private static void portsLeaveTheStore() {
        Check.sentence("the STORE itself has 0 there for ever");
        for (int port = 4080; port < 4096; port++) {
            BelfryBox box = Check.ran(3, "lda #255\nsta " + port + "\ninc " + port);
            Check.due("peek " + port, box.peek(port), 0);
            Check.due("poke " + port, box.poke(port, 1), false);
            Check.due("peek behind a poke " + port, box.peek(port), 0);
        }
    }

    private static void codesAtPorts() {
        Check.sentence("the BYTE at P (of the STORE itself, as all that stands behind a code)");
        // LOAD is 8, ldx # by its number: were the port read, X would change.
        BelfryBox box = Check.ran(4, "lda #8\nsta 4080\njmp 4080");
        Check.due("the code at a port is lda #", box.codes(0), 2);
        Check.due("A", box.register(0), 0);
        Check.due("P", box.register(4), 4082);
        box = Check.program("lda #99\nsta 4080\njmp 4079");
        box.poke(4079, 216);
        box.key(3);
        Check.due("own ahead of the ports is nop", box.run(4), 4);
        Check.due("P behind it", box.register(4), 4081);
        box = Check.program("lda #99\nsta 4080\nsta 4081\njmp 4079");
        box.poke(4079, 11);
        box.poke(0, 66);
        box.run(5);
        Check.due("a WORD in the ports is 0", box.register(1), 66);
        box = Check.program("jmp 4088");
        box.key(50);
        box.run(2);
        Check.due("no key goes by a code's byte", box.device(11), 1);
        box.text(4088);
        Check.due("nor by a text", box.device(11), 1);
    }

    private static void words() {
        Check.sentence("A WORD at a is the BYTE at a, and 256 times that at a + 1");
        BelfryBox box = new BelfryBox();
        box.poke(4078, 1);
        box.poke(4079, 2);
        box.restart();
        Check.due("the WORD at 4078", box.register(4), 513);
        goes("lda #1\nsta <8\nlda #2\nsta <9\njmp (8)", 513);
        goes("jmp 258", 258);
    }

    private static void flags() {
        Check.sentence("F is 128 N + 64 V + 4 I + 2 Z + C");
        int[] bits = {128, 64, 4, 2, 1};
        for (int bit : bits) {
            BelfryBox box = Check.ran(2, "psh #" + bit + "\nplf");
            Check.due("F of the one flag " + bit, box.register(5), bit);
        }
        Check.due("all flags", Check.ran(2, "psh #255\nplf").register(5), 199);
        Check.due("no flag", Check.ran(2, "psh #56\nplf").register(5), 0);
    }

    private static void start() {
        Check.sentence("A START: A, X, Y are 0, S 255, FLAGS 0 but I 1, P is the WORD at 4078; not HALTED");
        BelfryBox box = Check.ran(7, "lda #1\nldx #2\nldy #3\npsh #195\nplf\npha\nhlt");
        int[] before = {1, 2, 3, 254, 526, 195, 1};
        int[] due = {0, 0, 0, 255, 512, 4, 0};
        for (int what = 0; what < 7; what++) {
            Check.due("register " + what + " ahead", box.register(what), before[what]);
        }
        box.restart();
        for (int what = 0; what < 7; what++) {
            Check.due("register " + what, box.register(what), due[what]);
        }
    }

    private static void push() {
        Check.sentence("PUSH b: b comes to 256 + S, S is one less (modulo 256)");
        BelfryBox box = Check.ran(1, "psh #9");
        Check.due("the first comes to 511", box.peek(511), 9);
        Check.due("S", box.register(3), 254);
        box = Check.ran(3, "ldx #0\ntxs\npsh #9");
        Check.due("with S 0 it comes to 256", box.peek(256), 9);
        Check.due("S goes round", box.register(3), 255);
        Check.due("not to 511", box.peek(511), 0);
        Check.due("not to 255", box.peek(255), 0);
        box = Check.ran(3, "ldx #0\ntxs\njsr 700");
        Check.due("jsr's higher byte", box.peek(256), 2);
        Check.due("jsr's lower byte", box.peek(511), 7);
        Check.due("S behind jsr", box.register(3), 254);
        box = Check.ran(3, "ldx #1\ntxs\ntrp #5");
        Check.due("trp's higher byte", box.peek(257), 2);
        Check.due("trp's lower byte", box.peek(256), 6);
        Check.due("trp's F", box.peek(511), 4);
        Check.due("S behind trp", box.register(3), 254);
        Check.due("all are taken back", box.back(1), 1);
        Check.due("257, 256 and 511", box.peek(257) + box.peek(256) + box.peek(511), 0);
    }

    private static void pull() {
        Check.sentence("PULL: S is one more; what is at 256 + S");
        BelfryBox box = Check.ran(1, "pla\norg 256\nbyte 77");
        Check.due("with S 255 it is at 256", box.register(0), 77);
        Check.due("S goes round", box.register(3), 0);
        box = Check.ran(3, "ldx #254\ntxs\nplx\norg 511\nbyte 78");
        Check.due("with S 254 it is at 511", box.register(1), 78);
        Check.due("S", box.register(3), 255);
        box = Check.ran(3, "ldx #253\ntxs\nrti\norg 510\nbyte 195,44\norg 256\nbyte 1");
        Check.due("rti's F", box.register(5), 195);
        Check.due("rti's P", box.register(4), 300);
        Check.due("S behind rti", box.register(3), 0);
        Check.due("what is pulled stays", box.peek(511), 44);
    }
}
