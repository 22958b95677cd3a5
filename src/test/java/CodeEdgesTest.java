/** Section II at its edges, a sentence at a time: what each code does where a byte, an address or a flag ends. */
public final class CodeEdgesTest {
    public static void main(String[] args) {
        interrupt();
        wayTwo();
        waySix();
        valueOnce();
        noValue();
        cyclesOfWays();
        nz();
        add();
        subtract();
        compare();
        testBits();
        multiply();
        divide();
        addToRegisters();
        oneMoreOneLess();
        shifts();
        setAndClear();
        swapAndAddToStore();
        subroutineInTheStack();
        branchDistances();
        branchCycles();
        loops();
        callAndTrap();
        idle();
        returns();
        halt();
        stackWords();
        ownRegisters();
        decimals();
        illegal();
        cyclesBehindTheStep();
        Check.end();
    }

    private static BelfryBox interrupted(String lines, int steps) {
        BelfryBox box = Check.program(lines);
        box.key(1);
        box.run(steps);
        return box;
    }

    private static void interrupt() {
        Check.sentence("if I is 0 and the LINE is on, an INTERRUPT: PUSH P's higher byte, its lower one, F; I is 1; "
                + "P is the WORD at 4076; 7 cycles pass");
        BelfryBox box = interrupted("lda #8\nsta 4093\npsh #195\nplf\nnop", 5);
        Check.due("P", box.register(4), 1024);
        Check.due("F", box.register(5), 199);
        Check.due("F as it was ahead", box.peek(509), 195);
        Check.due("P's bytes", box.peek(511) * 256 + box.peek(510), 521);
        Check.due("S", box.register(3), 252);
        Check.due("cycles", box.register(7), 2 + 5 + 3 + 3 + 7);
        Check.due("codes(256)", box.codes(256), 1);
        Check.due("no code was done with it", box.codes(216), 1);
        box.run(1);
        Check.due("no second one while I is 1", box.codes(256), 1);
        box = interrupted("lda #8\nsta 4093\nnop\nnop", 4);
        Check.due("none with I 1", box.codes(256), 0);
        box = interrupted("lda #$f7\nsta 4093\ncli\nnop", 4);
        Check.due("none with no bit in common", box.codes(256), 0);
        box = interrupted("lda #8\nsta 4093\nldx #1\ntxs\ncli\nnop", 6);
        Check.due("S goes round", box.register(3), 254);
        Check.due("F at 511", box.peek(511), 0);
        Check.due("P's bytes at 257, 256", box.peek(257) * 256 + box.peek(256), 523);
    }

    private static void wayTwo() {
        Check.sentence("2 d: d + X modulo 256");
        String data = "\norg 0\nbyte 50,51\norg 254\nbyte 60,61\norg 256\nbyte 70,71";
        Check.due("255 + 0", Check.ran(2, "ldx #0\nlda <255,x" + data).register(0), 61);
        Check.due("255 + 1", Check.ran(2, "ldx #1\nlda <255,x" + data).register(0), 50);
        Check.due("255 + 255", Check.ran(2, "ldx #255\nlda <255,x" + data).register(0), 60);
        Check.due("2 + 255", Check.ran(2, "ldx #255\nlda <2,x" + data).register(0), 51);
        Check.due("a write", Check.ran(2, "ldx #2\nstx <255,x" + data).peek(1), 2);
        Check.due("not beyond 255", Check.ran(2, "ldx #2\nstx <255,x" + data).peek(257), 71);
        Check.due("a jump", Check.ran(2, "ldx #2\njmp <255,x" + data).register(4), 1);
    }

    private static void waySix() {
        Check.sentence("6 d: the WORD at d (its second byte at d + 1 modulo 256). 7 d: that WORD + Y");
        String data = "\norg 0\nbyte 1\norg 254\nbyte 3,44\norg 256\nbyte 2\norg 300\nbyte 80,81\norg 556\nbyte 82";
        Check.due("d 255", Check.ran(1, "lda (255)" + data).register(0), 80);
        Check.due("d 255 and Y", Check.ran(2, "ldy #1\nlda (255),y" + data).register(0), 81);
        Check.due("d 254", Check.ran(1, "jmp (254)" + data).register(4), 44 * 256 + 3 & 4095);
        BelfryBox box = Check.ran(4, "lda #200\nsta <8\nldy #100\nsty (8),y");
        Check.due("Y carries into the higher byte", box.peek(300), 100);
    }

    private static void valueOnce() {
        Check.sentence("VALUE v (but of w 0): what is read at the ADDRESS, once");
        for (int o = 0; o < 30; o++) {
            String word = PlainAssembler.WAY_WORDS.get(o);
            if (o >= 16 && o <= 19) {
                continue;
            }
            for (String way : new String[] {"4088", "4088,x", "4088,y", "(8)", "(8),y"}) {
                BelfryBox box = Check.program(word + " " + way + "\norg 8\nword 4088");
                box.key(11);
                box.key(12);
                box.key(13);
                box.run(1);
                Check.due("keys left behind " + word + " " + way, box.device(11), 2);
            }
        }
    }

    private static void noValue() {
        Check.sentence("what is read at the ADDRESS (for 16 .. 19, 30, 31: not)");
        for (String word : new String[] {"sta", "stx", "sty", "stz", "jmp", "jsr"}) {
            for (String way : new String[] {"4088", "4088,x", "4088,y", "(8)", "(8),y"}) {
                BelfryBox box = Check.program(word + " " + way + "\norg 8\nword 4088");
                box.key(11);
                box.run(1);
                Check.due("keys left behind " + word + " " + way, box.device(11), 1);
            }
            BelfryBox box = Check.ran(1, word + " 4094");
            Check.due("SEED behind " + word, box.device(10), word.startsWith("st") ? 0 : 1);
        }
    }

    private static void cyclesOfWays() {
        Check.sentence("Cycles: 2, 3, 4, 4, 5, 5, 6, 7, and what is told [more]");
        int[] more = {0, 0, 0, 0, 0, 0, 0, 0, 0, 0, 0, 0, 8, 12, 0, 0,
            1, 1, 1, 1, 2, 2, 2, 2, 2, 2, 2, 2, 2, 2, 0, 2};
        String[] ways = {"#9", "<9", "<9,x", "300", "300,x", "300,y", "(9)", "(9),y"};
        int[] cycles = {2, 3, 4, 4, 5, 5, 6, 7};
        for (int o = 0; o < 32; o++) {
            for (int w = o < 16 ? 0 : 1; w < 8; w++) {
                String line = PlainAssembler.WAY_WORDS.get(o) + " " + ways[w];
                BelfryBox box = Check.ran(1, line);
                Check.due("cycles of " + line, box.register(7), cycles[w] + more[o]);
                Check.due("codes of " + line, box.codes(8 * o + w), 1);
            }
        }
        // An address that goes round takes no longer.
        Check.due("lda 65535,x", Check.ran(2, "ldx #255\nlda 65535,x").register(7), 7);
    }

    private static void nz() {
        Check.sentence("NZ r: N is bit 7 of r, Z 1 if r is 0");
        Check.does("lda #0", 0, 0, 0, 2, 2);
        Check.does("lda #1", 1, 0, 0, 0, 2);
        Check.does("lda #127", 127, 0, 0, 0, 2);
        Check.does("lda #128", 128, 0, 0, 128, 2);
        Check.does("lda #255", 255, 0, 0, 128, 2);
        Check.does("lda #0\nlda #255", 255, 0, 0, 128, 2);
        Check.does("lda #255\nlda #0", 0, 0, 0, 2, 2);
    }

    private static void add() {
        Check.sentence("3 ADD: r is A + v + C; V is 1 if A and v have the same bit 7 and r another one, else 0; "
                + "C is 1 if r is above 255, else 0");
        Check.does("lda #255\nadd #0", 255, 0, 0, 128, 2);
        Check.does("lda #255\nadd #1", 0, 0, 0, 3, 2);
        Check.does("sec\nlda #255\nadd #0", 0, 0, 0, 3, 2);
        Check.does("sec\nlda #255\nadd #255", 255, 0, 0, 129, 2);
        Check.does("lda #127\nadd #1", 128, 0, 0, 192, 2);
        Check.does("sec\nlda #127\nadd #0", 128, 0, 0, 192, 2);
        Check.does("lda #127\nadd #128", 255, 0, 0, 128, 2);
        Check.does("lda #128\nadd #255", 127, 0, 0, 65, 2);
        Check.does("tst #64\nlda #1\nadd #1", 2, 0, 0, 0, 2);
    }

    private static void subtract() {
        Check.sentence("4 SUB: as ADD with 255 - v for v");
        Check.does("sec\nsub #0", 0, 0, 0, 3, 2);
        Check.does("sec\nsub #1", 255, 0, 0, 128, 2);
        Check.does("sub #0", 255, 0, 0, 128, 2);
        Check.does("sec\nlda #127\nsub #255", 128, 0, 0, 192, 2);
        Check.does("sec\nlda #128\nsub #128", 0, 0, 0, 3, 2);
        Check.does("lda #128\nsub #127", 0, 0, 0, 67, 2);
        Check.does("sec\nlda #255\nsub #255", 0, 0, 0, 3, 2);
    }

    private static void compare() {
        Check.sentence("CMP CPX CPY: C is 1 if the register is not below v, else 0; NZ (the register - v modulo 256)");
        Check.does("cmp #0", 0, 0, 0, 3, 2);
        Check.does("sec\ncmp #1", 0, 0, 0, 128, 2);
        Check.does("sec\ncmp #255", 0, 0, 0, 0, 2);
        Check.does("lda #255\ncmp #0", 255, 0, 0, 129, 2);
        Check.does("lda #255\ncmp #254", 255, 0, 0, 1, 2);
        Check.does("ldx #255\ncpx #255", 0, 255, 0, 3, 2);
        Check.does("sec\nldx #254\ncpx #255", 0, 254, 0, 128, 2);
        Check.does("ldy #0\ncpy #0", 0, 0, 0, 3, 2);
        Check.does("sec\ncpy #128", 0, 0, 0, 128, 2);
        Check.does("psh #64\nplf\nsei\ncmp #1", 0, 0, 0, 64 + 128, 2);
    }

    private static void testBits() {
        Check.sentence("11 TST: Z is 1 if A and v have no bit in common, else 0; N is v's bit 7, V its bit 6");
        Check.does("lda #255\ntst #0", 255, 0, 0, 2, 2);
        Check.does("lda #255\ntst #255", 255, 0, 0, 192, 2);
        Check.does("lda #0\ntst #255", 0, 0, 0, 194, 2);
        Check.does("lda #128\ntst #128", 128, 0, 0, 128, 2);
        Check.does("lda #63\ntst #64", 63, 0, 0, 66, 2);
        Check.does("tst #192\nlda #1\nsec\ntst #63", 1, 0, 0, 1, 2);
    }

    private static void multiply() {
        Check.sentence("12 MUL [8]: r is A times v; A is r modulo 256, Y r / 256; C is 1 if Y is not 0; NZ A");
        Check.does("lda #255\nmul #255", 1, 0, 254, 1, 10);
        Check.does("sec\nldy #9\nlda #255\nmul #1", 255, 0, 0, 128, 10);
        Check.does("sec\nldy #9\nlda #255\nmul #0", 0, 0, 0, 2, 10);
        Check.does("lda #128\nmul #2", 0, 0, 1, 3, 10);
        Check.does("lda #127\nmul #2", 254, 0, 0, 128, 10);
    }

    private static void divide() {
        Check.sentence("13 DIV [12]: if v is 0 or r / v is above 255: V and C are 1, and that is all");
        Check.does("div #0", 0, 0, 0, 65, 14);
        Check.does("ldy #255\nlda #255\ndiv #0", 255, 0, 255, 128 + 65, 14);
        Check.does("ldy #1\nlda #0\ndiv #1", 0, 0, 1, 2 + 65, 14);
        Check.does("ldy #5\nlda #0\ndiv #5", 0, 0, 5, 2 + 65, 14);
        Check.does("ldy #255\nlda #0\ndiv #255", 0, 0, 255, 2 + 65, 14);
        Check.does("lda #0\nldy #200\ndiv #100", 0, 0, 200, 128 + 65, 14);
        Check.sentence("13 DIV: else A is r / v, Y what is left, V and C are 0; NZ A");
        Check.does("ldy #4\nlda #255\ndiv #5", 255, 0, 4, 128, 14);
        Check.does("ldy #254\nlda #255\ndiv #255", 255, 0, 254, 128, 14);
        Check.does("lda #255\ndiv #1", 255, 0, 0, 128, 14);
        Check.does("psh #69\nplf\nlda #7\ndiv #8", 0, 0, 7, 2, 14);
        Check.does("psh #69\nplf\nldy #0\nlda #0\ndiv #255", 0, 0, 0, 2, 14);
    }

    private static void addToRegisters() {
        Check.sentence("14 ADX 15 ADY: r is the register + v, C as of ADD, the register r modulo 256, NZ");
        Check.does("ldx #255\nadx #1", 0, 0, 0, 3, 2);
        Check.does("ldx #255\nadx #255", 0, 254, 0, 129, 2);
        Check.does("sec\nldx #255\nadx #0", 0, 255, 0, 128, 2);
        Check.does("ldy #255\nady #1", 0, 0, 0, 3, 2);
        Check.does("sec\nldy #127\nady #1", 0, 0, 128, 128, 2);
        Check.does("psh #68\nplf\nady #0", 0, 0, 0, 66, 2);
    }

    private static void makes(String lines, int a, int f, int b) {
        Check.due("byte 9 of " + lines.replace('\n', '/'), Check.does(lines, a, 0, 0, f, 5).peek(9), b);
    }

    private static void oneMoreOneLess() {
        Check.sentence("20 INC [2]: TO v + 1, NZ of that (modulo 256, here and below). 21 DEC [2]: v - 1 likewise");
        makes("lda #255\nsta <9\ninc <9", 255, 2, 0);
        makes("lda #127\nsta <9\nsec\ninc <9", 127, 129, 128);
        makes("lda #1\ndec <9", 1, 128, 255);
        makes("lda #1\nsta <9\nsec\ndec <9", 1, 3, 0);
    }

    private static void shifts() {
        Check.sentence("22 SHL: C is v's bit 7; TO 2 v, NZ. 23 SHR: C is v's bit 0; TO v / 2, NZ");
        makes("lda #128\nsta <9\nshl <9", 128, 3, 0);
        makes("lda #255\nsta <9\nshl <9", 255, 129, 254);
        makes("lda #64\nsta <9\nsec\nshl <9", 64, 128, 128);
        makes("lda #255\nsta <9\nsec\nshr <9", 255, 1, 127);
        makes("lda #128\nsta <9\nsec\nshr <9", 128, 0, 64);
        Check.sentence("24 ROL: TO 2 v + C, C then v's bit 7, NZ. 25 ROR: TO v / 2 + 128 C, C then v's bit 0, NZ");
        makes("lda #255\nsta <9\nsec\nrol <9", 255, 129, 255);
        makes("lda #127\nsta <9\nsec\nrol <9", 127, 128, 255);
        makes("lda #0\nsec\nrol <9", 0, 0, 1);
        makes("lda #255\nsta <9\nsec\nror <9", 255, 129, 255);
        makes("lda #254\nsta <9\nsec\nror <9", 254, 128, 255);
        makes("lda #1\nsta <9\nror <9", 1, 3, 0);
    }

    private static void setAndClear() {
        Check.sentence("26 SET: TO v with all bits of A; NZ. 27 CLR: TO v without bits of A; NZ");
        makes("lda #255\nset <9", 255, 128, 255);
        makes("lda #0\nset <9", 0, 2, 0);
        makes("lda #255\nsta <9\nclr <9", 255, 2, 0);
        makes("lda #255\nsta <9\nlda #0\nclr <9", 0, 128, 255);
    }

    private static void swapAndAddToStore() {
        Check.sentence("28 SWP: TO A; A is v, NZ v. 29 ADM: r is v + A; TO r; C as of ADD; NZ");
        makes("lda #128\nswp <9", 0, 2, 128);
        makes("lda #255\nsta <9\nlda #1\nadm <9", 1, 3, 0);
        makes("sec\nlda #255\nadm <9", 255, 128, 255);
        makes("lda #255\nsta <9\nadm <9", 255, 129, 254);
        BelfryBox box = Check.program("lda #1\nswp 4094");
        box.run(2);
        Check.due("swp reads a port, then writes it", box.device(10), 1);
        Check.due("A is what was read", box.register(0), 1103515245 + 12345 >>> 16 & 255);
    }

    private static void subroutineInTheStack() {
        Check.sentence("31 JSR [2]: PUSH P's higher byte, its lower one (P behind all); P is the ADDRESS (found ahead "
                + "of the PUSHES)");
        BelfryBox box = Check.ran(2, "jmp 509\norg 509\njsr 700");
        Check.due("P", box.register(4), 700);
        Check.due("P's higher byte over the code's last", box.peek(511), 2);
        Check.due("P's lower byte", box.peek(510), 0);
        BelfryBox round = Check.program("jmp 4078");
        round.poke(4078, 251);
        round.poke(4079, 9);
        round.run(2);
        Check.due("P behind all, in the ports", round.peek(511) * 256 + round.peek(510), 4081);
        Check.due("by its bytes 9 and 0", round.register(4), 9);
        BelfryBox last = Check.ran(2, "jmp 0\norg 0\ncal .-1");
        Check.due("P behind a cal at 0", last.peek(511) * 256 + last.peek(510), 2);
        Check.due("P", last.register(4), 4095);
    }

    private static void branchDistances() {
        Check.sentence("r is b, or b - 256 if that is above 127; P is P + r");
        int[][] due = {{0, 514}, {1, 515}, {127, 641}, {128, 386}, {129, 387}, {254, 512}, {255, 513}};
        for (int[] one : due) {
            BelfryBox box = Check.program("bra .");
            box.poke(513, one[0]);
            box.run(1);
            Check.due("P by " + one[0], box.register(4), one[1]);
            BelfryBox call = Check.program("cal .");
            call.poke(513, one[0]);
            call.run(1);
            Check.due("P of cal by " + one[0], call.register(4), one[1]);
        }
    }

    private static void branchCycles() {
        Check.sentence("Branches: if so, P is P + r [1 more then]");
        String[] words = {"beq", "bne", "bcs", "bcc", "bmi", "bpl", "bvs", "bvc"};
        int[] flags = {2, 2, 1, 1, 128, 128, 64, 64};
        for (int k = 0; k < 8; k++) {
            for (int f = 0; f < 256; f++) {
                if ((f & 199) == f) {
                    boolean so = (f & flags[k]) != 0 == (k % 2 == 0);
                    BelfryBox box = Check.ran(3, "psh #" + f + "\nplf\n" + words[k] + " .+9");
                    Check.due("P of " + words[k] + " with F " + f, box.register(4), so ? 525 : 518);
                    Check.due("cycles of " + words[k] + " with F " + f, box.register(7), so ? 9 : 8);
                    Check.due("F stays", box.register(5), f);
                }
            }
        }
        Check.due("one that goes to where it is", Check.ran(1, "bra .").register(7), 3);
        Check.due("one that goes to the next", Check.ran(1, "bra .+2").register(7), 3);
    }

    private static void loops() {
        Check.sentence("25 DJX: X is one less (modulo 256); if it is not 0. 26 DJY likewise");
        for (String r : new String[] {"x", "y"}) {
            int what = r.equals("x") ? 1 : 2;
            int[][] due = {{0, 255, 521, 5}, {1, 0, 516, 4}, {2, 1, 521, 5}, {255, 254, 521, 5}};
            for (int[] one : due) {
                BelfryBox box = Check.ran(2, "ld" + r + " #" + one[0] + "\ndj" + r + " .+7");
                Check.due("register of dj" + r + " " + one[0], box.register(what), one[1]);
                Check.due("P of dj" + r + " " + one[0], box.register(4), one[2]);
                Check.due("cycles of dj" + r + " " + one[0], box.register(7), one[3]);
                int f = one[0] == 0 ? 6 : one[0] == 255 ? 132 : 4;
                Check.due("F stays behind dj" + r + " " + one[0], box.register(5), f);
            }
        }
    }

    private static void callAndTrap() {
        Check.sentence("30 TRP [5]: these PUSHES, PUSH F; A is b, I is 1, P is the WORD at 4074");
        for (int b : new int[] {0, 128, 255}) {
            BelfryBox box = Check.ran(3, "psh #67\nplf\ntrp #" + b);
            Check.due("A", box.register(0), b);
            Check.due("no NZ of A, but I", box.register(5), 71);
            Check.due("F as it was", box.peek(509), 67);
            Check.due("P", box.register(4), 768);
            Check.due("P behind it", box.peek(511) * 256 + box.peek(510), 518);
            Check.due("cycles", box.register(7), 3 + 3 + 7);
        }
        Check.sentence("29 CAL [3]: PUSH P's higher byte, its lower one; P is P + r");
        BelfryBox box = Check.ran(1, "cal .-126");
        Check.due("P", box.register(4), 386);
        Check.due("P behind it", box.peek(511) * 256 + box.peek(510), 514);
        Check.due("cycles", box.register(7), 5);
        Check.sentence("28 PSH [1]: PUSH b");
        Check.due("psh #0", Check.ran(2, "psh #9\npsh #0").peek(510), 0);
        Check.due("psh #255", Check.ran(1, "psh #255").peek(511), 255);
        Check.due("psh's F", Check.ran(1, "psh #255").register(5), 4);
    }

    private static void idle() {
        Check.sentence("31 IDL [b]: nothing");
        for (int b : new int[] {0, 1, 128, 255}) {
            BelfryBox box = Check.does("idl #" + b, 0, 0, 0, 0, 2 + b);
            Check.due("one code", box.codes(248), 1);
            Check.due("P", box.register(4), 514);
        }
    }

    private static void returns() {
        Check.sentence("1 RTS [4] .. 2 RTI [4]: PULL F (its bits 128, 64, 4, 2, 1), then as RTS");
        for (int f = 0; f < 256; f++) {
            BelfryBox box = Check.ran(4, "psh #1\npsh #44\npsh #" + f + "\nrti");
            Check.due("F of " + f, box.register(5), f & 199);
            Check.due("P", box.register(4), 300);
            Check.due("cycles", box.register(7), 9 + 6);
        }
        BelfryBox box = Check.ran(3, "psh #1\npsh #44\nrts");
        Check.due("F stays", box.register(5), 4);
        Check.due("cycles", box.register(7), 6 + 6);
        Check.due("S", box.register(3), 255);
    }

    private static void halt() {
        Check.sentence("3 HLT: the processor is HALTED");
        BelfryBox box = Check.ran(1, "hlt\nlda #9");
        Check.due("it is", box.register(6), 1);
        Check.due("P goes behind it", box.register(4), 514);
        Check.due("its cycles pass", box.register(7), 2);
        Check.due("no more steps", box.run(9), 0);
        Check.due("no cycles pass then", box.register(7), 2);
    }

    private static void stackWords() {
        Check.sentence("10 PHA 11 PLA .. [1]: PUSH, or PULL and NZ. 16 PHF 17 PLF [1]: F likewise, without NZ");
        Check.does("psh #0\nlda #128\npla", 0, 0, 0, 2, 3);
        Check.does("psh #255\nplx", 0, 255, 0, 128, 3);
        Check.does("psh #0\nldy #9\nply", 0, 0, 0, 2, 3);
        Check.does("lda #0\nldx #1\npha", 0, 1, 0, 0, 3);
        for (int f = 0; f < 256; f++) {
            BelfryBox box = Check.ran(3, "psh #" + f + "\nplf\nphf");
            Check.due("F of " + f, box.register(5), f & 199);
            Check.due("pushed", box.peek(511), f & 199);
        }
        Check.sentence("8 TSX: .. NZ. 9 TXS: without NZ");
        Check.does("ldx #0\ntxs\nldx #5\ntsx", 0, 0, 0, 2, 2);
        Check.does("ldx #128\ntxs\nldx #5\ntsx", 0, 128, 0, 128, 2);
        Check.due("S 0", Check.does("ldx #0\nlda #1\ntxs", 1, 0, 0, 0, 2).register(3), 0);
    }

    private static void ownRegisters() {
        Check.sentence("23 INX .. 28 DEA: one more, less, NZ");
        Check.does("ldx #255\nsec\ninx", 0, 0, 0, 3, 2);
        Check.does("ldx #0\ndex", 0, 255, 0, 128, 2);
        Check.does("ldy #255\niny", 0, 0, 0, 2, 2);
        Check.does("ldy #0\ndey", 0, 0, 255, 128, 2);
        Check.does("lda #255\nina", 0, 0, 0, 2, 2);
        Check.does("lda #0\nsec\ndea", 255, 0, 0, 129, 2);
        Check.does("lda #127\nina", 128, 0, 0, 128, 2);
        Check.does("lda #1\ndea", 0, 0, 0, 2, 2);
        Check.sentence("29 NEG: A is 256 - A modulo 256, NZ");
        Check.does("lda #1\nlda #0\nneg", 0, 0, 0, 2, 2);
        Check.does("lda #255\nsec\nneg", 1, 0, 0, 1, 2);
        Check.does("lda #128\nneg", 128, 0, 0, 128, 2);
        Check.sentence("30 SWN: A's lower and higher four bits change places, NZ");
        Check.does("lda #$f0\nswn", 15, 0, 0, 0, 2);
        Check.does("lda #8\nswn", 128, 0, 0, 128, 2);
        Check.does("lda #1\nlda #0\nswn", 0, 0, 0, 2, 2);
    }

    private static void decimals() {
        Check.sentence("31 BCD: C is 1 if A is 100 or more, else 0; A becomes, of A modulo 100, 16 times the tens and "
                + "the ones, NZ");
        Check.does("sec\nlda #0\nbcd", 0, 0, 0, 2, 2);
        Check.does("lda #9\nbcd", 9, 0, 0, 0, 2);
        Check.does("lda #10\nbcd", 16, 0, 0, 0, 2);
        Check.does("sec\nlda #99\nbcd", 0x99, 0, 0, 128, 2);
        Check.does("lda #100\nbcd", 0, 0, 0, 3, 2);
        Check.does("lda #199\nbcd", 0x99, 0, 0, 129, 2);
        Check.does("lda #200\nbcd", 0, 0, 0, 3, 2);
        Check.does("lda #255\nbcd", 0x55, 0, 0, 1, 2);
    }

    private static void illegal() {
        Check.sentence("Above 31: ILLEGAL: P goes back to the code, nothing passes, it counts as no STEP");
        for (int b = 32; b < 256; b++) {
            BelfryBox box = Check.program("lda #1\nsta 4082\nsta 4091\nown: byte 216," + b);
            box.run(3);
            String before = Check.state(box);
            Check.due("no step with " + b, box.run(5), 0);
            Check.due("ILLEGAL", box.about(0), 3);
            Check.due("P, cycles, codes and devices", Check.state(box), before);
            Check.due("kept", box.about(2), 3);
        }
        for (int b = 0; b < 32; b++) {
            Check.due("a step with " + b, Check.program("byte 216," + b).run(1), 1);
        }
    }

    private static void cyclesBehindTheStep() {
        Check.sentence("Behind a STEP its cycles pass, one by one");
        BelfryBox box = Check.ran(5, "lda #50\nsta 4080\nsta 4082\nlda #1\nsta 4082\nlda 4083\nldx 4083");
        Check.due("COUNT behind the step that started it", box.device(1), 45);
        box.run(1);
        Check.due("a read sees it ahead of its own cycles", box.register(0), 45);
        Check.due("then 4 pass", box.device(1), 41);
        box.run(1);
        Check.due("the next read sees those", box.register(1), 41);
    }
}
