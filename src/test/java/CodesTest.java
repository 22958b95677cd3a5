/** Promise 15 (register) and section II: what each code does, with its cycles. */
public final class CodesTest {
    public static void main(String[] args) {
        values();
        arithmetic();
        changes();
        stores();
        jumps();
        branches();
        stack();
        owns();
        ways();
        Check.due("register -1", new BelfryBox().register(-1), 0);
        Check.due("register 8", new BelfryBox().register(8), 0);
        Check.end();
    }

    private static void values() {
        Check.does("lda #0", 0, 0, 0, 2, 2);
        Check.does("lda #128", 128, 0, 0, 128, 2);
        Check.does("ldx #7", 0, 7, 0, 0, 2);
        Check.does("ldy #255", 0, 0, 255, 128, 2);
        Check.does("lda #12\nand #10", 8, 0, 0, 0, 2);
        Check.does("lda #12\nora #130", 142, 0, 0, 128, 2);
        Check.does("lda #12\nxor #12", 0, 0, 0, 2, 2);
        Check.does("lda #5\ncmp #5", 5, 0, 0, 3, 2);
        Check.does("lda #5\ncmp #6", 5, 0, 0, 128, 2);
        Check.does("ldx #6\ncpx #5", 0, 6, 0, 1, 2);
        Check.does("ldy #200\ncpy #10", 0, 0, 200, 129, 2);
        Check.does("lda #63\ntst #192", 63, 0, 0, 128 + 64 + 2, 2);
        Check.does("lda #65\ntst #64", 65, 0, 0, 64, 2);
        Check.does("lda #1\ntst #1", 1, 0, 0, 0, 2);
    }

    private static void arithmetic() {
        Check.does("lda #100\nadd #100", 200, 0, 0, 128 + 64, 2);
        Check.does("lda #200\nadd #100", 44, 0, 0, 1, 2);
        Check.does("lda #128\nadd #128", 0, 0, 0, 64 + 2 + 1, 2);
        Check.does("sec\nlda #1\nadd #2", 4, 0, 0, 0, 2);
        Check.does("sec\nlda #5\nsub #3", 2, 0, 0, 1, 2);
        Check.does("lda #5\nsub #3", 1, 0, 0, 1, 2);
        Check.does("sec\nlda #3\nsub #5", 254, 0, 0, 128, 2);
        Check.does("sec\nlda #128\nsub #1", 127, 0, 0, 64 + 1, 2);
        Check.does("lda #20\nmul #13", 4, 0, 1, 1, 10);
        Check.does("sec\nldy #9\nlda #20\nmul #12", 240, 0, 0, 128, 10);
        Check.does("lda #16\nmul #16", 0, 0, 1, 3, 10);
        Check.does("ldy #1\nlda #4\ndiv #13", 20, 0, 0, 0, 14);
        Check.does("ldy #1\nlda #5\ndiv #13", 20, 0, 1, 0, 14);
        Check.does("lda #5\ndiv #0", 5, 0, 0, 64 + 1, 14);
        Check.does("ldy #2\nlda #0\ndiv #2", 0, 0, 2, 64 + 1 + 2, 14);
        Check.does("ldy #1\nlda #255\ndiv #2", 255, 0, 1, 128, 14);
        Check.does("sec\nlda #3\ndiv #4", 0, 0, 3, 2, 14);
        Check.does("sec\nldx #250\nadx #6", 0, 0, 0, 3, 2);
        Check.does("sec\nldy #250\nady #5", 0, 0, 255, 128, 2);
    }

    private static void changes() {
        Check.due("inc", Check.does("inc <9", 0, 0, 0, 0, 5).peek(9), 1);
        Check.due("dec", Check.does("dec 300", 0, 0, 0, 128, 6).peek(300), 255);
        Check.due("inc to 0", Check.does("dec <9\ninc <9", 0, 0, 0, 2, 5).peek(9), 0);
        Check.due("shl", Check.does("lda #192\nsta <9\nshl <9", 192, 0, 0, 129, 5).peek(9), 128);
        Check.due("shr", Check.does("lda #1\nsta <9\nshr <9", 1, 0, 0, 3, 5).peek(9), 0);
        Check.due("rol", Check.does("lda #128\nsta <9\nsec\nrol <9", 128, 0, 0, 1, 5).peek(9), 1);
        Check.due("rol without C", Check.does("lda #128\nsta <9\nrol <9", 128, 0, 0, 3, 5).peek(9), 0);
        Check.due("ror", Check.does("lda #2\nsta <9\nsec\nror <9", 2, 0, 0, 128, 5).peek(9), 129);
        Check.due("ror without C", Check.does("lda #3\nsta <9\nror <9", 3, 0, 0, 1, 5).peek(9), 1);
        Check.due("set", Check.does("lda #2\nsta <9\nlda #129\nset <9", 129, 0, 0, 128, 5).peek(9), 131);
        Check.due("clr", Check.does("lda #3\nsta <9\nlda #3\nclr <9", 3, 0, 0, 2, 5).peek(9), 0);
        Check.due("clr some", Check.does("lda #7\nsta <9\nlda #2\nclr <9", 2, 0, 0, 0, 5).peek(9), 5);
        Check.due("swp", Check.does("lda #200\nsta <9\nlda #0\nswp <9", 200, 0, 0, 128, 5).peek(9), 0);
        Check.due("adm", Check.does("lda #200\nsta <9\nadm <9", 200, 0, 0, 129, 5).peek(9), 144);
        Check.due("adm without C", Check.does("sec\nlda #1\nadm <9", 1, 0, 0, 0, 5).peek(9), 1);
    }

    private static void stores() {
        Check.due("sta", Check.does("lda #5\nsta <9", 5, 0, 0, 0, 4).peek(9), 5);
        Check.due("stx", Check.does("ldx #5\nstx 300", 0, 5, 0, 0, 5).peek(300), 5);
        Check.due("sty", Check.does("ldy #5\nsty <9,x", 0, 0, 5, 0, 5).peek(9), 5);
        Check.due("stz", Check.does("dec <9\nstz <9", 0, 0, 0, 128, 4).peek(9), 0);
    }

    private static void jumps() {
        Check.due("jmp", Check.does("jmp 700", 0, 0, 0, 0, 4).register(4), 700);
        Check.due("jmp <", Check.does("jmp <200", 0, 0, 0, 0, 3).register(4), 200);
        Check.due("jmp beyond", Check.does("jmp 65535", 0, 0, 0, 0, 4).register(4), 4095);
        Check.due("jmp ()", Check.does("lda #3\nsta <9\njmp (8)", 3, 0, 0, 0, 6).register(4), 768);
        Check.due("jmp does not read", Check.does("jmp 4088", 0, 0, 0, 0, 4).register(4), 4088);
        BelfryBox box = Check.does("jsr 700", 0, 0, 0, 0, 6);
        Check.due("jsr", box.register(4), 700);
        Check.due("jsr S", box.register(3), 253);
        Check.due("jsr pushes the higher byte", box.peek(511), 2);
        Check.due("jsr pushes the lower byte", box.peek(510), 3);
        box = Check.does("cal .+10", 0, 0, 0, 0, 5);
        Check.due("cal", box.register(4), 522);
        Check.due("cal pushes", box.peek(511) * 1000 + box.peek(510), 2002);
        box = Check.does("sec\ntrp #77", 77, 0, 0, 1, 7);
        Check.due("trp", box.register(4), 768);
        Check.due("trp pushes P", box.peek(511) * 1000 + box.peek(510), 2004);
        Check.due("trp pushes F", box.peek(509), 5);
        box = Check.does("jsr deep\ndeep: rts", 0, 0, 0, 0, 6);
        Check.due("rts", box.register(4), 515);
        Check.due("rts S", box.register(3), 255);
        box = Check.program("cli\nlda #0\ntrp #5\norg 768\nsec\nrti");
        box.run(5);
        Check.due("rti P", box.register(4), 518);
        Check.due("rti F", box.register(5), 2);
        Check.due("rti cycles", box.register(7), 2 + 2 + 7 + 2 + 6);
        box = Check.program("psh #255\npsh #255\npsh #255\nrti");
        box.run(4);
        Check.due("rti F of 255", box.register(5), 199);
        Check.due("rti P of 65535", box.register(4), 4095);
    }

    private static void branches() {
        String[] due = {"lda #0\nbeq", "lda #1\nbne", "sec\nbcs", "clc\nbcc", "lda #128\nbmi", "lda #1\nbpl",
            "lda #64\ntst #64\nbvs", "clv\nbvc", "nop\nbra", "ldx #0\ndjx", "ldy #2\ndjy"};
        String[] not = {"lda #1\nbeq", "lda #0\nbne", "clc\nbcs", "sec\nbcc", "lda #1\nbmi", "lda #128\nbpl",
            "clv\nbvs", "lda #64\ntst #64\nbvc", "", "ldx #1\ndjx", "ldy #1\ndjy"};
        for (int k = 0; k < due.length; k++) {
            branch(due[k] + " .+100", 100, 3);
            branch(due[k] + " .-100", -100, 3);
            if (!not[k].isEmpty()) {
                branch(not[k] + " .+100", 2, 2);
            }
        }
        Check.does("ldx #0\ndjx .", 0, 255, 0, 2, 3);
        Check.does("ldy #1\ndjy .", 0, 0, 0, 0, 2);
        BelfryBox round = Check.program("jmp <0\norg 0\nbra .-100");
        round.run(2);
        Check.due("P goes round", round.register(4), 3996);
    }

    private static void branch(String lines, int by, int cycles) {
        int count = lines.split("\n").length;
        BelfryBox box = Check.program(lines);
        box.run(count - 1);
        int from = box.register(4);
        int before = box.register(7);
        box.run(1);
        Check.due("P by " + lines.replace('\n', '/'), box.register(4) - from, by);
        Check.due("cycles of " + lines.replace('\n', '/'), box.register(7) - before, cycles);
    }

    private static void stack() {
        BelfryBox box = Check.does("psh #9", 0, 0, 0, 0, 3);
        Check.due("psh", box.peek(511), 9);
        Check.due("S", box.register(3), 254);
        Check.due("pha", Check.does("lda #200\npha", 200, 0, 0, 128, 3).peek(511), 200);
        Check.due("phx", Check.does("ldx #8\nphx", 0, 8, 0, 0, 3).peek(511), 8);
        Check.due("phy", Check.does("ldy #7\nphy", 0, 0, 7, 0, 3).peek(511), 7);
        Check.due("phf", Check.does("sec\nphf", 0, 0, 0, 1, 3).peek(511), 5);
        Check.does("psh #200\npla", 200, 0, 0, 128, 3);
        Check.does("psh #0\nplx", 0, 0, 0, 2, 3);
        Check.does("psh #5\nply", 0, 0, 5, 0, 3);
        Check.does("psh #255\nplf", 0, 0, 0, 195, 3);
        box = Check.does("ldx #0\ntxs\npsh #5\npsh #6", 0, 0, 0, 2, 3);
        Check.due("the stack goes round: first", box.peek(256), 5);
        Check.due("the stack goes round: second", box.peek(511), 6);
        Check.due("the stack goes round: S", box.register(3), 254);
        Check.does("ldx #0\ntxs\npsh #5\npla", 5, 0, 0, 0, 3);
    }

    private static void owns() {
        Check.does("nop", 0, 0, 0, 0, 2);
        Check.does("idl #0", 0, 0, 0, 0, 2);
        Check.does("idl #255", 0, 0, 0, 0, 257);
        Check.due("hlt", Check.does("hlt", 0, 0, 0, 0, 2).register(6), 1);
        Check.does("lda #128\ntax", 128, 128, 0, 128, 2);
        Check.does("ldx #3\ntxa", 3, 3, 0, 0, 2);
        Check.does("lda #3\ntay", 3, 0, 3, 0, 2);
        Check.does("ldy #3\ntya", 3, 0, 3, 0, 2);
        Check.does("tsx", 0, 255, 0, 128, 2);
        Check.due("txs", Check.does("ldx #128\nlda #0\ntxs", 0, 128, 0, 2, 2).register(3), 128);
        Check.does("sec", 0, 0, 0, 1, 2);
        Check.does("sec\nclc", 0, 0, 0, 0, 2);
        Check.does("cli", 0, 0, 0, -4, 2);
        Check.does("cli\nsei", 0, 0, 0, 0, 2);
        Check.does("tst #64\nclv", 0, 0, 0, 2, 2);
        Check.does("ldx #255\ninx", 0, 0, 0, 2, 2);
        Check.does("dex", 0, 255, 0, 128, 2);
        Check.does("iny", 0, 0, 1, 0, 2);
        Check.does("dey", 0, 0, 255, 128, 2);
        Check.does("ina", 1, 0, 0, 0, 2);
        Check.does("dea", 255, 0, 0, 128, 2);
        Check.does("lda #1\nneg", 255, 0, 0, 128, 2);
        Check.does("neg", 0, 0, 0, 2, 2);
        Check.does("lda #128\nneg", 128, 0, 0, 128, 2);
        Check.does("lda #$1f\nswn", 0xf1, 0, 0, 128, 2);
        Check.does("lda #99\nbcd", 0x99, 0, 0, 128, 2);
        Check.does("lda #100\nbcd", 0, 0, 0, 3, 2);
        Check.does("lda #255\nbcd", 0x55, 0, 0, 1, 2);
        Check.does("sec\nlda #7\nbcd", 7, 0, 0, 0, 2);
    }

    private static void ways() {
        String data = "\norg 9\nbyte 44\norg 255\nbyte 9\norg 0\nbyte 1\norg 265\nbyte 45\norg 300\nbyte 46";
        int[][] due = {{1, 44, 3}, {2, 44, 4}, {3, 46, 4}, {4, 46, 5}, {5, 46, 5}, {6, 45, 6}, {7, 46, 7}};
        String[] codes = {"lda <9", "ldx #250\nlda <15,x", "lda 300", "ldx #100\nlda 200,x", "ldy #100\nlda 4296,y",
            "lda (255)", "ldy #35\nlda (255),y"};
        for (int k = 0; k < codes.length; k++) {
            BelfryBox box = Check.program(codes[k] + data);
            int before = codes[k].split("\n").length - 1;
            if (before > 0) {
                box.run(before);
            }
            int cycles = box.register(7);
            box.run(1);
            Check.due("way " + due[k][0], box.register(0), due[k][1]);
            Check.due("cycles of way " + due[k][0], box.register(7) - cycles, due[k][2]);
        }
    }
}
