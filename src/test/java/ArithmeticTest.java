/** Section II: the codes that reckon, with all bytes: what they make of two bytes and C, with the flags. */
public final class ArithmeticTest {
    private static final BelfryBox BOX = Check.program("psh #0\nplf\nldy #0\nlda #0\nnop");
    private static final int F_AT = 513;
    private static final int Y_AT = 517;
    private static final int A_AT = 519;
    private static final int CODE_AT = 520;

    private static int a;
    private static int x;
    private static int y;
    private static int f;
    private static int looked;

    public static void main(String[] args) {
        for (int one = 0; one < 256; one++) {
            for (int v = 0; v < 256; v++) {
                sums(one, v);
                compares(one, v);
                products(one, v);
                inStore(one, v);
            }
            alone(one);
        }
        Check.due("answers were looked at", looked > 2_000_000, true);
        Check.end();
    }

    /** Does a code with a byte behind it, from this A, Y and F; X is 0. */
    private static void does(int code, int behind, int fromA, int fromY, int fromF) {
        BOX.poke(F_AT, fromF);
        BOX.poke(Y_AT, fromY);
        BOX.poke(A_AT, fromA);
        BOX.poke(CODE_AT, code);
        BOX.poke(CODE_AT + 1, behind);
        BOX.restart();
        BOX.run(5);
        a = BOX.register(0);
        x = BOX.register(1);
        y = BOX.register(2);
        f = BOX.register(5);
    }

    /** The flags of an F, with N and Z by a byte. */
    private static int nz(int flags, int b) {
        return (flags & ~130) + (b > 127 ? 128 : 0) + (b == 0 ? 2 : 0);
    }

    /** As Check.due, but it tells in words only what is wrong: there are some millions. */
    private static void due(String what, int one, int v, int got, int want) {
        looked++;
        if (got != want) {
            Check.due(what + " of " + one + " and " + v, got, want);
        }
    }

    private static int signed(int b) {
        return b > 127 ? b - 256 : b;
    }

    private static void sums(int one, int v) {
        for (int carry = 0; carry < 2; carry++) {
            does(24, v, one, 7, 70 + carry);
            int r = one + v + carry;
            int real = signed(one) + signed(v) + carry;
            int flags = 4 + (r > 255 ? 1 : 0) + (real < -128 || real > 127 ? 64 : 0);
            due("A of add", one, v, a, r % 256);
            due("F of add", one, v, f, nz(flags, r % 256));
            does(32, v, one, 7, 70 + carry);
            r = one - v - (1 - carry);
            real = signed(one) - signed(v) - (1 - carry);
            flags = 4 + (r >= 0 ? 1 : 0) + (real < -128 || real > 127 ? 64 : 0);
            due("A of sub", one, v, a, Math.floorMod(r, 256));
            due("F of sub", one, v, f, nz(flags, Math.floorMod(r, 256)));
        }
        does(120, v, 9, one, 71);
        due("Y of ady", one, v, y, (one + v) % 256);
        due("F of ady", one, v, f, nz(68 + (one + v > 255 ? 1 : 0), (one + v) % 256));
        due("A of ady", one, v, a, 9);
    }

    private static void compares(int one, int v) {
        int flags = nz(68 + (one >= v ? 1 : 0), Math.floorMod(one - v, 256));
        does(64, v, one, 7, 70);
        due("F of cmp", one, v, f, flags);
        does(80, v, 9, one, 71);
        due("F of cpy", one, v, f, flags);
        does(88, v, one, 7, 7);
        due("F of tst", one, v, f, 5 + v / 64 * 64 + ((one & v) == 0 ? 2 : 0));
        due("A of tst", one, v, a, one);
        does(40, v, one, 7, 71);
        due("F of and", one, v, f, nz(71, one & v));
        due("A of and", one, v, a, one & v);
        does(48, v, one, 7, 71);
        due("A of ora", one, v, a, one + v - (one & v));
        does(56, v, one, 7, 71);
        due("A of xor", one, v, a, one + v - 2 * (one & v));
        due("X", one, v, x, 0);
    }

    private static void products(int one, int v) {
        does(96, v, one, 7, 71);
        int r = one * v;
        due("A of mul", one, v, a, r % 256);
        due("Y of mul", one, v, y, r / 256);
        due("F of mul", one, v, f, nz(68 + (r > 255 ? 1 : 0), r % 256));
        for (int higher : new int[] {0, 1, v - 1, v, 255}) {
            if (higher >= 0 && higher < 256) {
                does(104, v, one, higher, 70);
                r = 256 * higher + one;
                boolean fits = higher < v;
                due("A of div", one, v, a, fits ? r / v : one);
                due("Y of div", one, v, y, fits ? r % v : higher);
                due("F of div", one, v, f, fits ? nz(4, r / v) : nz(69, one));
            }
        }
    }

    private static void inStore(int one, int v) {
        if (v % 3 == one % 3) {
            changes(26, one, v, one, one | v, 0);
            changes(27, one, v, one, v - (one & v), 0);
            changes(28, one, v, v, one, 0);
            changes(29, one, v, one, (one + v) % 256, one + v > 255 ? 1 : 0);
        }
    }

    /** A code of way 1 at address 9, which has v; C is 0 ahead of it. */
    private static void changes(int o, int one, int v, int due, int stored, int carry) {
        BOX.poke(9, v);
        does(8 * o + 1, 9, one, 7, 64);
        due("A of code " + o, one, v, a, due);
        due("byte of code " + o, one, v, BOX.peek(9), stored);
        due("F of code " + o, one, v, f, nz(64 + carry, o == 28 ? v : stored));
    }

    private static void alone(int v) {
        for (int carry = 0; carry < 2; carry++) {
            shifts(20, v, carry, (v + 1) % 256, carry);
            shifts(21, v, carry, (v + 255) % 256, carry);
            shifts(22, v, carry, 2 * v % 256, v / 128);
            shifts(23, v, carry, v / 2, v % 2);
            shifts(24, v, carry, 2 * v % 256 + carry, v / 128);
            shifts(25, v, carry, v / 2 + 128 * carry, v % 2);
            owns(29, v, carry, (256 - v) % 256, carry);
            owns(30, v, carry, v % 16 * 16 + v / 16, carry);
            owns(31, v, carry, v % 100 + v % 100 / 10 * 6, v / 100 > 0 ? 1 : 0);
        }
    }

    private static void shifts(int o, int v, int carry, int stored, int after) {
        BOX.poke(9, v);
        does(8 * o + 1, 9, 77, 7, 64 + carry);
        due("byte of code " + o, v, carry, BOX.peek(9), stored);
        due("F of code " + o, v, carry, f, nz(64 + after, stored));
        due("A of code " + o, v, carry, a, 77);
    }

    private static void owns(int b, int v, int carry, int becomes, int after) {
        does(216, b, v, 7, 64 + carry);
        due("A of own " + b, v, carry, a, becomes);
        due("F of own " + b, v, carry, f, nz(64 + after, becomes));
    }
}
