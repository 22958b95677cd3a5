/** Promises 4 (assemble) and 6 (name): what texts without a fault lay, and their names. */
public final class LanguageTest {
    private static final int NONE = BelfryBox.NONE;

    public static void main(String[] args) {
        ways();
        shorts();
        owns();
        laying();
        sums();
        spacing();
        names();
        ranges();
        assembleTwice();
        Check.end();
    }

    private static void ways() {
        for (int o = 0; o < 32; o++) {
            String word = PlainAssembler.WAY_WORDS.get(o);
            if (o < 16) {
                Check.lays(word + " #5", 8 * o, 5);
            }
            Check.lays(word + " <6", 8 * o + 1, 6);
            Check.lays(word + " <7,x", 8 * o + 2, 7);
            Check.lays(word + " 258", 8 * o + 3, 2, 1);
            Check.lays(word + " 258,x", 8 * o + 4, 2, 1);
            Check.lays(word + " 258,y", 8 * o + 5, 2, 1);
            Check.lays(word + " (8)", 8 * o + 6, 8);
            Check.lays(word + " (9),y", 8 * o + 7, 9);
        }
        Check.lays("lda 5", 3, 5, 0);
        Check.lays("lda #-1", 0, 255);
        Check.lays("lda #-128", 0, 128);
    }

    private static void shorts() {
        for (int k = 0; k < 16; k++) {
            int o = 16 + k;
            String word = PlainAssembler.SHORT_WORDS.get(k);
            if (k == 12 || k == 14 || k == 15) {
                Check.lays(word + " #5", 8 * o, 5);
            } else if (k != 11) {
                Check.lays(word + " .", 8 * o, 254);
                Check.lays(word + " .+2", 8 * o, 0);
                Check.lays(word + " .+129", 8 * o, 127);
                Check.lays(word + " .-126", 8 * o, 128);
            }
        }
        Check.lays("nop\nbra .\nbra 0", 216, 0, 192, 254, 192, 250);
    }

    private static void owns() {
        for (int b = 0; b < 32; b++) {
            Check.lays(PlainAssembler.OWN_WORDS.get(b), 216, b);
        }
    }

    private static void laying() {
        Check.lays("byte 1,-128,255,'a", 1, 128, 255, 97);
        Check.lays("word 1,-32768,65535,258", 1, 0, 0, 128, 255, 255, 2, 1);
        Check.lays("text \"a ;b~\"", 97, 32, 59, 98, 126);
        Check.lays("text \"\"");
        Check.lays("text \"'\" ; remark", 39);
        Check.lays("byte 1\nspace 2\nbyte 2", 1, 0, 0, 2);
        Check.lays("byte 1,2,3,4\norg 1\nspace 2\nbyte 9", 1, 2, 3, 9);
        Check.lays("space 0");
        Check.lays("");
        Check.lays("\n\n;\n");
        BelfryBox box = new BelfryBox();
        Check.due("org", Check.assemble(box, "byte 7\norg 100\nbyte 8\norg 4079\nbyte 9"), 4080);
        Check.due("at 0", box.peek(0), 7);
        Check.due("at 100", box.peek(100), 8);
        Check.due("at 4079", box.peek(4079), 9);
        Check.due("an org at the end", Check.assemble(box, "byte 7\norg 100"), 100);
        Check.due("the store has 0 else", box.peek(4079), 0);
        Check.due("space up to the ports", Check.assemble(box, "space 4080\n\na:space 0\ntext \"\""), 4080);
        Check.due("a name there", box.name(0, 0), 4080);
    }

    private static void sums() {
        Check.lays("byte 1+2-4", 255);
        Check.lays("byte - 3 + 5", 2);
        Check.lays("byte -'a+'b", 1);
        Check.lays("word 99999-34464", 255, 255);
        Check.lays("word $ffff,$0,$a,$12", 255, 255, 0, 0, 10, 0, 18, 0);
        Check.lays("byte %258,&258,%$1ff,&'a,% 513", 1, 2, 1, 97, 2);
        Check.lays("byte -%258+&3", 2);
        Check.lays("byte 0,0\nbyte .,.+1,%.", 0, 0, 2, 3, 0);
        Check.lays("byte 00007,$007", 7, 7);
        Check.lays("byte '',' ,';", 39, 32, 59);
        Check.lays("a=-1\nbyte %a,&a,a", 255, 255, 255);
        Check.lays("a=-257\nbyte %a,&a", 254, 255);
        // 2^31 goes round to the least int, twice that to 0.
        StringBuilder text = new StringBuilder("a0=32768\n");
        for (int i = 1; i <= 17; i++) {
            text.append('a').append(i).append("=a").append(i - 1).append("+a").append(i - 1).append('\n');
        }
        Check.lays(text + "byte a17", 0);
        BelfryBox box = new BelfryBox();
        Check.assemble(box, text.toString());
        Check.due("2^31", box.name(16, 0), Integer.MIN_VALUE);
        Check.due("2^30", box.name(15, 0), 1 << 30);
    }

    private static void spacing() {
        Check.lays("   lda   #  5   ;x", 0, 5);
        Check.lays("lda#5;x\377\t", 0, 5);
        Check.lays("a:lda(5),y", 7, 5);
        Check.lays("a : lda ( 5 ) , y", 7, 5);
        Check.lays("lda<5 ,x", 2, 5);
        Check.lays("a:", new int[0]);
        Check.lays("a=5;", new int[0]);
        Check.lays(";any thing $ \" '\nnop", 216, 0);
        Check.lays("lda5:lda lda5", 3, 0, 0);
        Check.lays("own=7\nbyte own", 7);
        Check.lays("x1=3\ny2=4\nbyte x1,y2", 3, 4);
        Check.lays("abcdefgh=3\nbyte abcdefgh", 3);
        Check.lays("text\"a\"", 97);
        Check.lays("byte 1 , 2", 1, 2);
    }

    private static void names() {
        BelfryBox box = new BelfryBox();
        Check.due("no names", box.about(8), 0);
        String text = "one = 5\ntwo: byte one\n three: org 100+one\nfour: space 3\nfive: nop\nsix = -one";
        Check.due("assemble", Check.assemble(box, text), 110);
        int[][] due = {{5, 0, 1}, {0, 8, 0}, {105, 23, 0}, {105, 42, 0}, {108, 56, 0}, {-5, 66, 1}};
        Check.due("names", box.about(8), due.length);
        for (int k = 0; k < due.length; k++) {
            for (int what = 0; what < 3; what++) {
                Check.due("name " + k + " " + what, box.name(k, what), due[k][what]);
            }
            Check.due("name " + k + " 3", box.name(k, 3), 0);
            Check.due("name " + k + " -1", box.name(k, -1), 0);
        }
        Check.due("name -1", box.name(-1, 0), 0);
        Check.due("name 6", box.name(6, 1), 0);
        Check.due("a fault", Check.assemble(box, "other = 9\nbyte none"), NONE);
        Check.due("names stay", box.about(8), due.length);
        Check.due("their values too", box.name(5, 0), -5);
        Check.due("another text", Check.assemble(box, "  other = 9"), 0);
        Check.due("its names", box.about(8), 1);
        Check.due("its value", box.name(0, 0), 9);
        Check.due("its place", box.name(0, 1), 2);
        Check.due("none of before", box.name(1, 0), 0);
        Check.lays("byte late\nlate: byte 7", 1, 7);
        Check.lays("jmp end\nend: nop", 243, 3, 0, 216, 0);
        StringBuilder sixty = new StringBuilder();
        for (int i = 0; i < 60; i++) {
            sixty.append('n').append(i).append('=').append(i).append('\n');
        }
        Check.lays(sixty + "byte n0,n59", 0, 59);
    }

    private static void ranges() {
        Check.lays("lda <255", 1, 255);
        Check.lays("lda <0,x", 2, 0);
        Check.lays("lda (255)", 6, 255);
        Check.lays("lda 65535", 3, 255, 255);
        Check.lays("lda #255", 0, 255);
        Check.lays("idl #-128", 248, 128);
        Check.lays("space 127\nl: nop\nspace 1\norg 0\nbra l+2", 192, 127);
    }

    private static void assembleTwice() {
        BelfryBox box = Check.program("lda #1\nlda #2\nhlt");
        box.stop(514, true);
        box.run(9);
        Check.due("one step", box.about(1), 1);
        Check.due("a fault", Check.assemble(box, "?"), NONE);
        Check.due("all else stays: A", box.register(0), 1);
        Check.due("all else stays: kept", box.about(2), 1);
        Check.due("all else stays: codes", box.codes(0), 1);
        Check.due("a text", Check.assemble(box, "org 4078\nword 300"), 4080);
        Check.due("restarted: P", box.register(4), 300);
        Check.due("restarted: A", box.register(0), 0);
        Check.due("restarted: kept", box.about(2), 0);
        Check.due("restarted: codes", box.codes(0), 0);
        Check.due("the stop stays", box.about(9), 1);
        Check.due("the old program is gone", box.peek(513), 0);
    }
}
