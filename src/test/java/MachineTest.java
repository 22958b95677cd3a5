import java.util.HashSet;
import java.util.Random;
import java.util.Set;

/** Runs programs of random codes on a box and on the plain machine: all that can be asked must agree. */
public final class MachineTest {
    private static final int PROGRAMS = 400;
    private static final int[] MET = new int[257];
    private static final int[] COUNTED = new int[8];

    public static void main(String[] args) {
        for (int seed = 1; seed <= PROGRAMS; seed++) {
            compare(seed);
        }
        for (int code = 0; code <= 256; code++) {
            Check.due("code " + code + " was met", MET[code] > 0, true);
        }
        for (int what = 3; what <= 7; what++) {
            Check.due("about " + what + " was met", COUNTED[what] > 0, true);
        }
        Check.end();
    }

    private static void note(BelfryBox box) {
        for (int code = 0; code <= 256; code++) {
            MET[code] += box.codes(code);
        }
        for (int what = 3; what <= 7; what++) {
            COUNTED[what] += box.about(what);
        }
    }

    private static void compare(int seed) {
        Random random = new Random(seed);
        BelfryBox box = new BelfryBox();
        PlainMachine plain = new PlainMachine();
        Set<Integer> stops = new HashSet<>();
        bring(box, plain, randomText(random, plain.store));
        for (int row = 0; row < 64; row += 1 + random.nextInt(9)) {
            int pins = random.nextInt(256);
            box.drum(row, pins);
            plain.pins[row] = pins;
        }
        for (int k = 0; k < 80; k++) {
            act(seed, random, box, plain, stops);
            Check.due("program " + seed + " act " + k + ": state", Check.state(box), plain.state());
        }
        note(box);
        StringBuilder bytes = new StringBuilder();
        for (int b : plain.store) {
            bytes.append((char) b);
        }
        Check.due("program " + seed + ": store", Check.store(box).equals(bytes.toString()), true);
    }

    private static void bring(BelfryBox box, PlainMachine plain, String text) {
        Check.due("assemble", Check.assemble(box, text) != BelfryBox.NONE, true);
        plain.restart();
    }

    private static void act(int seed, Random random, BelfryBox box, PlainMachine plain, Set<Integer> stops) {
        int choice = random.nextInt(20);
        if (choice < 12) {
            int n = 1 + random.nextInt(random.nextInt(4) == 0 ? 600 : 12);
            Check.due("program " + seed + ": run", box.run(n), plain.run(n, stops));
            Check.due("why", box.about(0), plain.why);
            Check.due("how many", box.about(1), plain.done);
            if (plain.why >= 2) {
                leaveDeadEnd(random, box, plain);
            }
        } else if (choice < 15) {
            int n = random.nextInt(random.nextInt(3) == 0 ? 300 : 8);
            Check.due("program " + seed + ": back", box.back(n), plain.back(n) ? n : BelfryBox.NONE);
        } else if (choice < 17) {
            int b = random.nextInt(256);
            boolean room = plain.keys.size() < 16;
            if (room) {
                plain.keys.add(b);
                plain.came |= 8;
                plain.past.clear();
            }
            Check.due("key", box.key(b), room ? plain.keys.size() : BelfryBox.NONE);
        } else if (choice == 17) {
            int a = 512 + random.nextInt(700);
            int b = random.nextInt(256);
            box.poke(a, b);
            plain.store[a] = b;
            plain.past.clear();
        } else if (choice == 18 && stops.size() < 16) {
            int a = 512 + random.nextInt(700);
            stops.add(a);
            Check.due("stop", box.stop(a, true), stops.size());
        }
        Check.due("kept", box.about(2), plain.past.size());
    }

    /** Where no step can be done: another code at P, or a restart. */
    private static void leaveDeadEnd(Random random, BelfryBox box, PlainMachine plain) {
        if (plain.halted || plain.p >= 4079) {
            box.restart();
            plain.restart();
        } else {
            int next = plain.p + 1;
            int b = random.nextInt(32);
            Check.due("poke", box.poke(next, b), true);
            plain.store[next] = b;
            plain.past.clear();
        }
    }

    /** Random bytes in page 0, a random program from 512 on, words for starts, interrupts and traps. */
    private static String randomText(Random random, int[] store) {
        StringBuilder text = new StringBuilder();
        lay(text, store, 0, randomBytes(random, 60));
        int[] program = new int[1000];
        for (int at = 0; at + 3 < program.length; at += randomCode(random, program, at)) {
            continue;
        }
        lay(text, store, 512, program);
        int[] words = {random.nextInt(256), 2 + random.nextInt(4), random.nextInt(256), 2 + random.nextInt(4),
            random.nextInt(256), 2 + random.nextInt(3)};
        lay(text, store, 4074, words);
        return text.toString();
    }

    private static int[] randomBytes(Random random, int n) {
        int[] bytes = new int[n];
        for (int k = 0; k < n; k++) {
            bytes[k] = random.nextInt(256);
        }
        // A pointer to a port now and then.
        for (int k = 0; k + 1 < n; k += 6) {
            bytes[k] = 240 + random.nextInt(16);
            bytes[k + 1] = 15 + 16 * random.nextInt(16);
        }
        return bytes;
    }

    /** A code that is likely to meet devices, and seldom illegal. */
    private static int randomCode(Random random, int[] program, int at) {
        int kind = random.nextInt(10);
        if (kind < 3) {
            int o = random.nextInt(30);
            program[at] = 8 * o + 3;
            program[at + 1] = 240 + random.nextInt(16);
            program[at + 2] = 15;
            return 3;
        }
        if (kind < 5) {
            program[at] = 8 * 27;
            program[at + 1] = random.nextInt(60) == 0 ? 40 : random.nextInt(32);
            if (program[at + 1] == 3 && random.nextInt(4) != 0) {
                program[at + 1] = 21;
            }
            return 2;
        }
        program[at] = random.nextInt(256);
        program[at + 1] = random.nextInt(256);
        program[at + 2] = random.nextInt(16);
        int way = program[at] & 7;
        return way >= 3 && way <= 5 ? 3 : 2;
    }

    private static void lay(StringBuilder text, int[] store, int start, int[] bytes) {
        text.append("org ").append(start).append('\n');
        for (int k = 0; k < bytes.length; k++) {
            text.append(k % 20 == 0 ? "byte " : ",").append(bytes[k]);
            if (k % 20 == 19 || k == bytes.length - 1) {
                text.append('\n');
            }
            store[start + k] = bytes[k];
        }
    }
}
