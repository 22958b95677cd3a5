/** Promises 21 (text) and 22 (out): the text of each code, and that it lays the code again. */
public final class TextTest {
    private static final int NONE = BelfryBox.NONE;

    public static void main(String[] args) {
        edges();
        tells();
        again();
        Check.end();
    }

    private static void edges() {
        BelfryBox box = new BelfryBox();
        Check.due("out is empty at first", box.out(0), NONE);
        Check.due("text 0", box.text(0), 2);
        Check.due("out", Check.out(box), "lda #0");
        Check.due("text -1", box.text(-1), NONE);
        Check.due("text 4096", box.text(4096), NONE);
        Check.due("out stays", Check.out(box), "lda #0");
        Check.due("out -1", box.out(-1), NONE);
        Check.due("out 5", box.out(5), '0');
        Check.due("out 6", box.out(6), NONE);
        box.poke(0, 77);
        Check.due("text 4095", box.text(4095), 2);
        Check.due("it goes round", Check.out(box), "lda #77");
        box.restart();
        Check.due("restart leaves it", Check.out(box), "lda #77");
        box.poke(4079, 219);
        Check.due("a code ahead of the ports", box.text(4079), 3);
        Check.due("ports have 0", Check.out(box), "clr 0");
        BelfryBox kept = new BelfryBox();
        kept.run(3);
        kept.text(0);
        Check.due("a text changes nothing", kept.about(2), 3);
    }

    private static void tells(int bytes, String due, int... code) {
        BelfryBox box = new BelfryBox();
        for (int i = 0; i < code.length; i++) {
            box.poke(700 + i, code[i]);
        }
        Check.due("bytes of " + due, box.text(700), bytes);
        Check.due("text", Check.out(box), due);
    }

    private static void tells() {
        tells(2, "lda #255", 0, 255);
        tells(2, "sub <100", 33, 100);
        tells(2, "ldx <10,x", 10, 10);
        tells(3, "sta 65535", 131, 255, 255);
        tells(3, "jmp 4096,x", 244, 0, 16);
        tells(3, "jsr 256,y", 253, 0, 1);
        tells(2, "adm (0)", 238, 0);
        tells(2, "swp (200),y", 231, 200);
        tells(2, "beq .+2", 128, 0);
        tells(2, "bne .+0", 136, 254);
        tells(2, "bra .-1", 192, 253);
        tells(2, "djx .+129", 200, 127);
        tells(2, "djy .-126", 208, 128);
        tells(2, "cal .+1", 232, 255);
        tells(2, "psh #0", 224, 0);
        tells(2, "trp #128", 240, 128);
        tells(2, "idl #9", 248, 9);
        tells(2, "nop", 216, 0);
        tells(2, "bcd", 216, 31);
        tells(2, "byte 216,32", 216, 32);
        tells(2, "byte 216,255", 216, 255);
    }

    /** Each code with some bytes behind it: its text is assembled to these bytes. */
    private static void again() {
        int[] behind = {0, 1, 9, 10, 31, 32, 99, 100, 127, 128, 253, 254, 255};
        for (int code = 0; code < 256; code++) {
            for (int b : behind) {
                BelfryBox box = new BelfryBox();
                box.poke(512, code);
                box.poke(513, b);
                box.poke(514, 255 - b);
                int bytes = box.text(512);
                String text = Check.out(box);
                BelfryBox other = new BelfryBox();
                Check.due("assembled " + text, Check.assemble(other, "org 512\n" + text), 512 + bytes);
                Check.due("code of " + text, other.peek(512), code);
                Check.due("byte behind " + text, other.peek(513), b);
                Check.due("second byte behind " + text, other.peek(514), bytes == 3 ? 255 - b : 0);
            }
        }
    }
}
