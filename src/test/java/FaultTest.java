/** Promise 5 (fault), and promise 4's NONE: each fault of the language, and its place. */
public final class FaultTest {
    private static final int NONE = BelfryBox.NONE;

    public static void main(String[] args) {
        syntax();
        brokenTokens();
        longNames();
        namesTold();
        unknown();
        range();
        room();
        order();
        latest();
        Check.end();
    }

    private static void syntax() {
        for (String text : new String[] {"lda|", "lda  |", "lda |;x", "lda|\nnop", "nop |5", "nop |nop", "|5", "|:",
            "|x: nop", "|y=5", "a |nop", "a |5", "a|", "a: |b", "a: |x", "a = |lda", "a =|", "a = 5 |nop", "|=5",
            "sta |#5", "jmp |#5", "beq |#5", "beq |<5", "beq |(5)", "beq 5|,x", "cal |#5", "psh |5", "trp |<5",
            "idl #|", "lda #5|,x", "lda <5,|y", "lda (5),|x", "lda (5|,x)", "lda (5|", "lda 5,|z", "lda 5,|",
            "lda 5,|5", "lda 5,x|,y", "lda (5)|(5)", "lda 5 |6", "lda 5+|", "lda 5+|-3", "lda -|-3", "lda |+",
            "byte|", "byte 1,|", "byte |,1", "byte 1,2,|\n", "byte %|%5", "byte %|-5", "byte &|",
            "byte 1 |: 2", "text|", "text |5", "text |'a", "text \"a\" |\"b\"", "text \"a\"|,5", "org|", "org 5|,6",
            "space |#5", "|LDA #5", "l|D", "nop|\t", "nop |@", "|?", "a:|:",
            "a: |b:", "org 5|,", "lda |x", "byte |nop",
            "byte 1+|y", "byte 5|.", "byte .|.", "nop\nnop\n  |!", "rts |rts", "own |#5",
            "nop|\r\n", "nop |\"", "lda |\"a\"", "lda |)", "lda <|#5", "lda #|<5", "byte |=", "nop |, ;"}) {
            Check.fails(1, text);
        }
    }

    private static void brokenTokens() {
        for (String text : new String[] {"lda #$|", "lda #$|\nnop", "lda #$|g", "lda #$| 5", "lda #$|A", "lda $12|g",
            "lda $1234|5", "lda 12345|6", "lda 12|a", "byte '|", "byte '|\n", "byte '|\177", "byte '|\t",
            "byte 'a|b", "text \"abc|", "text \"abc|\nnop", "text \"abc|\tx\"", "text \"|", "text \"|\177\"",
            "byte 1,$|", "byte %$|x", "nop |$g", "nop |'\t", "nop |\"abc", "lda 5|'", "lda 5|$", "lda (5|$",
            "a |$"}) {
            Check.fails(1, text);
        }
    }

    private static void longNames() {
        for (String text : new String[] {"abcdefgh|i = 5", "abcdefgh|i: nop", "byte abcdefgh|i", "a2345678|9=1",
            "nop abcdefgh|ijkl", "lda 5,abcdefgh|i", "a: abcdefgh|i", "a abcdefgh|i", "byte 1abcdefgh|i",
            "nop\nlda #abcdefgh|1"}) {
            Check.fails(1, text);
        }
    }

    private static void namesTold() {
        Check.fails(3, "a=1\n |a=2");
        Check.fails(3, "a:\n|a:");
        Check.fails(3, "a: nop\nb=a\n|a = 5");
        StringBuilder sixty = new StringBuilder();
        for (int i = 0; i < 60; i++) {
            sixty.append('n').append(i).append(":\n");
        }
        Check.fails(6, sixty + "  |more: nop");
        Check.fails(6, sixty + "|more = none");
        Check.fails(3, sixty + "|n59 = 5");
        Check.fails(1, sixty + "more = |");
    }

    private static void unknown() {
        Check.fails(2, "org |a\na=5");
        Check.fails(2, "space 1+|a\na=5");
        Check.fails(2, "a = |b + c\nb=5");
        Check.fails(2, "a = |a");
        Check.fails(2, "a: org |a");
        Check.fails(2, "a: space |a");
        Check.fails(2, "byte 1,|a,b");
        Check.fails(2, "lda #|a");
        Check.fails(2, "b=1\nlda <b+%|c,x");
        Check.fails(2, "beq |a");
        Check.fails(2, "byte 256,|a");
        Check.fails(2, "word |a,99999");
    }

    private static void range() {
        for (String text : new String[] {"org |4080", "org |-1", "space |4081", "space |-1", "a=4080\norg   |a",
            "lda #|256", "lda #|-129", "byte 1,|256", "byte |-129,300", "word |65536", "word 1,|-32769",
            "lda <|256", "lda <|-1,x", "lda (|256)", "lda ( |-1),y", "lda |65536", "lda |-1", "lda |65536,x",
            "sta |-1,y", "beq |.+130", "beq |.-127", "cal |.+130", "djx |.-127", "psh #|256", "idl #|-129",
            "trp #|99999", "bra |4000", "byte 0,|%1+255+1", "nop\nbra |-125"}) {
            Check.fails(4, text);
        }
    }

    private static void room() {
        Check.fails(5, "org 4079\n |nop");
        Check.fails(5, "org 4078\na: |lda 5");
        Check.fails(5, "org 4079\n|word 1");
        Check.fails(5, "org 4078\n|byte 1,2,3");
        Check.fails(5, "org 4078\n|text \"abc\"");
        Check.fails(5, "org 1\n|space 4080");
        Check.fails(5, "space 4080\n\n|byte 1");
        Check.fails(5, "space 4080\n|nop");
    }

    private static void order() {
        Check.fails(1, "a=1\na=|");
        Check.fails(3, "a=1\n|a: org b");
        Check.fails(3, "a=1\n|a: space 5000");
        Check.fails(2, "space 4080\nspace |a+9999");
        Check.fails(4, "space 4080\nspace |4081");
        Check.fails(1, "byte none\nbyte 256\n|?");
        Check.fails(5, "byte none\nspace 4079\n|byte 1");
        Check.fails(4, "byte |256\nbyte none");
        Check.fails(2, "byte |none\nbyte 256");
        Check.fails(4, "byte |-129,256");
        Check.fails(5, "org 4079\n|word 99999");
        Check.fails(3, "org 4079\na:\n|a: word 1");
    }

    private static void latest() {
        BelfryBox box = new BelfryBox();
        Check.due("ahead of any: 0", box.fault(0), NONE);
        Check.due("ahead of any: 1", box.fault(1), NONE);
        Check.assemble(box, "nop ?");
        Check.due("a fault", box.fault(0), 1);
        box.restart();
        Check.feed(box, "nop");
        Check.due("it stays", box.fault(1), 4);
        box.assemble();
        Check.due("none any more", box.fault(0), 0);
        Check.due("no place any more", box.fault(1), NONE);
        Check.due("another what", box.fault(3), NONE);
    }
}
