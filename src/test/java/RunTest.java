/** Promises 12 (stop), 13 (run), 17 (about), 18 (codes). */
public final class RunTest {
    private static final int NONE = BelfryBox.NONE;

    public static void main(String[] args) {
        stops();
        runs();
        stopsEndRuns();
        illegal();
        interrupts();
        counts();
        Check.end();
    }

    private static void stops() {
        BelfryBox box = new BelfryBox();
        Check.due("stop -1", box.stop(-1, true), NONE);
        Check.due("stop 4096", box.stop(4096, true), NONE);
        Check.due("no stop -1", box.stop(-1, false), NONE);
        Check.due("none to lift", box.stop(5, false), 0);
        for (int i = 1; i <= 16; i++) {
            Check.due("stop " + i, box.stop(i == 16 ? 4095 : i, true), i);
        }
        Check.due("a 17th", box.stop(100, true), NONE);
        Check.due("a second one", box.stop(4095, true), 16);
        Check.due("how many", box.about(9), 16);
        Check.due("one is lifted", box.stop(3, false), 15);
        Check.due("it is lifted already", box.stop(3, false), 15);
        Check.due("the 16th again", box.stop(0, true), 16);
        box.restart();
        Check.due("they stay", box.about(9), 16);
    }

    private static void ended(BelfryBox box, int n, int done, int why) {
        Check.due("run " + n, box.run(n), done);
        Check.due("why run " + n + " ended", box.about(0), why);
        Check.due("steps of run " + n, box.about(1), done);
    }

    private static void runs() {
        BelfryBox box = Check.program("lda #1\nldx #2\nhlt\nldy #3");
        Check.due("run 0", box.run(0), NONE);
        Check.due("run -1", box.run(-1), NONE);
        Check.due("run 2001", box.run(2001), NONE);
        ended(box, 1, 1, 0);
        ended(box, 2, 2, 0);
        Check.due("halted", box.register(6), 1);
        ended(box, 2000, 0, 2);
        box.run(0);
        Check.due("a run that was none", box.about(0), 2);
        Check.due("Y", box.register(2), 0);
        box.restart();
        ended(box, 2000, 3, 2);
        BelfryBox loop = Check.program("bra .");
        ended(loop, 2000, 2000, 0);
        Check.due("cycles", loop.register(7), 6000);
        Check.due("kept", loop.about(2), 256);
    }

    private static void stopsEndRuns() {
        BelfryBox box = Check.program("lda #1\nldx #2\nldy #3\nhlt");
        box.stop(512, true);
        box.stop(516, true);
        ended(box, 5, 2, 1);
        Check.due("P", box.register(4), 516);
        ended(box, 1, 1, 0);
        box.stop(520, true);
        ended(box, 5, 1, 1);
        Check.due("a stop ahead of halted", box.register(6), 1);
        ended(box, 5, 0, 2);
        box.restart();
        box.stop(516, false);
        ended(box, 9, 4, 1);
        BelfryBox illegal = Check.program("nop\nbyte 216,32");
        illegal.stop(514, true);
        ended(illegal, 9, 1, 1);
        ended(illegal, 9, 0, 3);
    }

    private static void illegal() {
        BelfryBox box = Check.program("nop\nbyte 216,32");
        ended(box, 3, 1, 3);
        Check.due("P stays at the code", box.register(4), 514);
        Check.due("nothing passes", box.register(7), 2);
        Check.due("it counts as no step", box.codes(216), 1);
        Check.due("kept", box.about(2), 1);
        box.poke(515, 31);
        ended(box, 1, 1, 0);
        BelfryBox edge = Check.program("jmp 4095\norg 0\nbyte 3");
        edge.poke(0, 40);
        ended(edge, 2, 2, 0);
        Check.due("the code at a port is lda #", edge.register(0), 40);
        Check.due("P goes round", edge.register(4), 1);
    }

    private static void interrupts() {
        BelfryBox box = Check.program("lda #8\nsta 4093\ncli\nbyte 216,99\norg 1024\nhlt");
        box.key(65);
        ended(box, 3, 3, 0);
        Check.due("the interrupt comes ahead of the illegal code", box.run(1), 1);
        Check.due("interrupts", box.codes(256), 1);
        Check.due("P", box.register(4), 1024);
        Check.due("I", box.register(5), 4);
        Check.due("cycles", box.register(7), 2 + 5 + 2 + 7);
        Check.due("P's higher byte", box.peek(511), 2);
        Check.due("P's lower byte", box.peek(510), 7);
        Check.due("F as it was", box.peek(509), 0);
        ended(box, 3, 1, 2);
        BelfryBox stopped = Check.program("lda #8\nsta 4093\ncli\nnop");
        stopped.key(65);
        stopped.stop(519, true);
        ended(stopped, 9, 3, 1);
        ended(stopped, 1, 1, 0);
        Check.due("the interrupt is the next step", stopped.register(4), 1024);
        BelfryBox masked = Check.program("lda #7\nsta 4093\ncli\nnop\nnop");
        masked.key(65);
        masked.run(5);
        Check.due("no bit in common", masked.codes(256), 0);
        BelfryBox held = Check.program("lda #8\nsta 4093\nnop\nnop");
        held.key(65);
        held.run(4);
        Check.due("I is 1", held.codes(256), 0);
        Check.due("P", held.register(4), 521);
        BelfryBox halt = Check.program("lda #8\nsta 4093\nhlt");
        halt.run(3);
        halt.key(1);
        ended(halt, 1, 0, 2);
    }

    private static void counts() {
        BelfryBox box = Check.program("ldx #3\nnop\ninx\ndex\ndjx .-6\nhlt");
        box.run(100);
        Check.due("ldx", box.codes(8), 1);
        Check.due("own codes are one", box.codes(216), 10);
        Check.due("djx", box.codes(200), 3);
        Check.due("codes -1", box.codes(-1), 0);
        Check.due("codes 257", box.codes(257), 0);
        Check.due("about -1", box.about(-1), 0);
        Check.due("about 11", box.about(11), 0);
        box.back(2);
        Check.due("codes taken back: djx", box.codes(200), 2);
        Check.due("codes taken back: own", box.codes(216), 9);
        Check.due("the run was as it was", box.about(1), 14);
        Check.due("why it ended too", box.about(0), 2);
    }
}
