import java.util.ArrayDeque;
import java.util.ArrayList;

/**
 * The document's sections I to III once more, told as plainly as can be: a cycle at a time, each flag for
 * itself, and a whole copy ahead of each step. The class is held against it.
 */
final class PlainMachine {
    int[] store = new int[4096];
    int a, x, y, s, p, cycles;
    boolean n, v, i, z, c, halted;
    int load, count, speed, part, row, came, mask, watch, muffled, lost, resets;
    int seed = 1;
    boolean runs, turns;
    int[] rests = new int[8];
    int[] pins = new int[64];
    ArrayList<Integer> keys = new ArrayList<>();
    ArrayList<int[]> ring = new ArrayList<>();
    ArrayList<Integer> strip = new ArrayList<>();
    int[] codes = new int[257];
    int why, done;
    ArrayDeque<PlainMachine> past = new ArrayDeque<>();
    private boolean resetDue;

    void restart() {
        load = count = speed = part = row = came = mask = watch = muffled = lost = resets = cycles = 0;
        runs = turns = false;
        seed = 1;
        rests = new int[8];
        keys.clear();
        ring.clear();
        strip.clear();
        codes = new int[257];
        past.clear();
        start();
    }

    private void start() {
        a = x = y = 0;
        s = 255;
        n = v = z = c = false;
        i = true;
        p = word(4078) % 4096;
        halted = false;
    }

    private PlainMachine copy() {
        PlainMachine m = new PlainMachine();
        m.take(this);
        return m;
    }

    private void take(PlainMachine m) {
        store = m.store.clone();
        a = m.a; x = m.x; y = m.y; s = m.s; p = m.p; cycles = m.cycles;
        n = m.n; v = m.v; i = m.i; z = m.z; c = m.c; halted = m.halted;
        load = m.load; count = m.count; speed = m.speed; part = m.part; row = m.row; came = m.came;
        mask = m.mask; watch = m.watch; muffled = m.muffled; lost = m.lost; resets = m.resets; seed = m.seed;
        runs = m.runs; turns = m.turns;
        rests = m.rests.clone();
        keys = new ArrayList<>(m.keys);
        ring = new ArrayList<>(m.ring);
        strip = new ArrayList<>(m.strip);
        codes = m.codes.clone();
    }

    boolean back(int steps) {
        if (steps < 1 || steps > past.size()) {
            return false;
        }
        for (int k = 0; k < steps; k++) {
            take(past.removeLast());
        }
        return true;
    }

    int run(int most, java.util.Set<Integer> stops) {
        why = 0;
        done = 0;
        while (done < most) {
            if (done > 0 && stops.contains(p)) {
                why = 1;
            } else if (halted) {
                why = 2;
            } else if (!(!i && (came & mask) != 0) && store[p] == 216 && store[(p + 1) % 4096] > 31) {
                why = 3;
            }
            if (why != 0) {
                return done;
            }
            past.addLast(copy());
            if (past.size() > 256) {
                past.removeFirst();
            }
            step();
            done++;
        }
        return done;
    }

    private int word(int at) {
        return store[at] + 256 * store[at + 1];
    }

    private int f() {
        return (n ? 128 : 0) + (v ? 64 : 0) + (i ? 4 : 0) + (z ? 2 : 0) + (c ? 1 : 0);
    }

    private void f(int b) {
        n = b / 128 % 2 == 1;
        v = b / 64 % 2 == 1;
        i = b / 4 % 2 == 1;
        z = b / 2 % 2 == 1;
        c = b % 2 == 1;
    }

    private void push(int b) {
        store[256 + s] = b;
        s = (s + 255) % 256;
    }

    private int pull() {
        s = (s + 1) % 256;
        return store[256 + s];
    }

    private int next() {
        int b = store[p];
        p = (p + 1) % 4096;
        return b;
    }

    private int nz(int r) {
        r = Math.floorMod(r, 256);
        n = r >= 128;
        z = r == 0;
        return r;
    }

    private void step() {
        resetDue = false;
        int took;
        if (!i && (came & mask) != 0) {
            codes[256]++;
            push(p / 256);
            push(p % 256);
            push(f());
            i = true;
            p = word(4076) % 4096;
            took = 7;
        } else {
            int code = next();
            codes[code]++;
            took = code(code / 8, code % 8);
        }
        for (int k = 0; k < took; k++) {
            cycle();
        }
        if (resetDue) {
            start();
            runs = turns = false;
            came = mask = 0;
            resets++;
        }
    }

    private void cycle() {
        cycles++;
        if (runs) {
            if (count == 0) {
                count = load;
                came |= 1;
            } else {
                count--;
            }
        }
        if (turns) {
            part++;
            if (part >= 8 * (speed + 1)) {
                part = 0;
                row = (row + 1) % 64;
                if (pins[row] != 0) {
                    came |= 2;
                }
            }
        }
        for (int b = 0; b < 8; b++) {
            if (rests[b] > 0) {
                rests[b]--;
                if (rests[b] == 0) {
                    came |= 4;
                }
            }
        }
        if (watch != 0) {
            watch--;
            if (watch == 0) {
                resetDue = true;
            }
        }
    }

    private int code(int o, int w) {
        if (w == 0) {
            int b = next();
            return o < 16 ? value(o, b, 2) : single(o, b);
        }
        int d = next();
        if (w >= 3 && w <= 5) {
            d += 256 * next();
        } else if (w >= 6) {
            d = store[d] + 256 * store[(d + 1) % 256];
        }
        int address = d;
        if (w == 2) {
            address = (d + x) % 256;
        } else if (w == 4) {
            address = d + x;
        } else if (w == 5 || w == 7) {
            address = d + y;
        }
        address %= 4096;
        int[] base = {2, 3, 4, 4, 5, 5, 6, 7};
        if (o < 16) {
            return value(o, read(address), base[w]);
        }
        return atAddress(o, address, base[w]);
    }

    private int value(int o, int b, int took) {
        int r;
        switch (o) {
            case 0: a = nz(b); break;
            case 1: x = nz(b); break;
            case 2: y = nz(b); break;
            case 3: case 4:
                if (o == 4) {
                    b = 255 - b;
                }
                r = a + b + (c ? 1 : 0);
                v = a / 128 == b / 128 && r / 128 % 2 != a / 128;
                c = r > 255;
                a = nz(r);
                break;
            case 5: a = nz(a & b); break;
            case 6: a = nz(a | b); break;
            case 7: a = nz(a ^ b); break;
            case 8: c = a >= b; nz(a - b); break;
            case 9: c = x >= b; nz(x - b); break;
            case 10: c = y >= b; nz(y - b); break;
            case 11: z = (a & b) == 0; n = b >= 128; v = b / 64 % 2 == 1; break;
            case 12:
                r = a * b;
                y = r / 256;
                c = y != 0;
                a = nz(r % 256);
                return took + 8;
            case 13:
                r = 256 * y + a;
                if (b == 0 || r / b > 255) {
                    v = c = true;
                } else {
                    v = c = false;
                    y = r % b;
                    a = nz(r / b);
                }
                return took + 12;
            case 14: c = x + b > 255; x = nz(x + b); break;
            default: c = y + b > 255; y = nz(y + b); break;
        }
        return took;
    }

    private int atAddress(int o, int address, int took) {
        int b = o <= 19 || o >= 30 ? 0 : read(address);
        boolean old = c;
        switch (o) {
            case 16: write(address, a); return took + 1;
            case 17: write(address, x); return took + 1;
            case 18: write(address, y); return took + 1;
            case 19: write(address, 0); return took + 1;
            case 20: write(address, nz(b + 1)); break;
            case 21: write(address, nz(b - 1)); break;
            case 22: c = b >= 128; write(address, nz(2 * b)); break;
            case 23: c = b % 2 == 1; write(address, nz(b / 2)); break;
            case 24: c = b >= 128; write(address, nz(2 * b + (old ? 1 : 0))); break;
            case 25: c = b % 2 == 1; write(address, nz(b / 2 + (old ? 128 : 0))); break;
            case 26: write(address, nz(b | a)); break;
            case 27: write(address, nz(b & (255 - a))); break;
            case 28: write(address, a); a = nz(b); break;
            case 29: c = a + b > 255; write(address, nz(a + b)); break;
            case 30: p = address; return took;
            default: push(p / 256); push(p % 256); p = address; break;
        }
        return took + 2;
    }

    private int single(int o, int b) {
        boolean[] so = {z, !z, c, !c, n, !n, v, !v, true};
        int r = b > 127 ? b - 256 : b;
        boolean go = false;
        if (o < 25) {
            go = so[o - 16];
        } else if (o == 25) {
            x = (x + 255) % 256;
            go = x != 0;
        } else if (o == 26) {
            y = (y + 255) % 256;
            go = y != 0;
        } else if (o == 27) {
            return own(b);
        } else if (o == 28) {
            push(b);
            return 3;
        } else if (o == 31) {
            return 2 + b;
        } else {
            push(p / 256);
            push(p % 256);
            if (o == 29) {
                p = Math.floorMod(p + r, 4096);
                return 5;
            }
            push(f());
            a = b;
            i = true;
            p = word(4074) % 4096;
            return 7;
        }
        if (go) {
            p = Math.floorMod(p + r, 4096);
        }
        return go ? 3 : 2;
    }

    private int own(int b) {
        switch (b) {
            case 0: return 2;
            case 1: case 2:
                if (b == 2) {
                    f(pull());
                }
                int low = pull();
                p = (low + 256 * pull()) % 4096;
                return 6;
            case 3: halted = true; return 2;
            case 4: x = nz(a); return 2;
            case 5: a = nz(x); return 2;
            case 6: y = nz(a); return 2;
            case 7: a = nz(y); return 2;
            case 8: x = nz(s); return 2;
            case 9: s = x; return 2;
            case 10: push(a); return 3;
            case 11: a = nz(pull()); return 3;
            case 12: push(x); return 3;
            case 13: x = nz(pull()); return 3;
            case 14: push(y); return 3;
            case 15: y = nz(pull()); return 3;
            case 16: push(f()); return 3;
            case 17: f(pull()); return 3;
            case 18: c = true; return 2;
            case 19: c = false; return 2;
            case 20: i = true; return 2;
            case 21: i = false; return 2;
            case 22: v = false; return 2;
            case 23: x = nz(x + 1); return 2;
            case 24: x = nz(x - 1); return 2;
            case 25: y = nz(y + 1); return 2;
            case 26: y = nz(y - 1); return 2;
            case 27: a = nz(a + 1); return 2;
            case 28: a = nz(a - 1); return 2;
            case 29: a = nz(256 - a); return 2;
            case 30: a = nz(a % 16 * 16 + a / 16); return 2;
            default:
                c = a >= 100;
                a = nz(a % 100 / 10 * 16 + a % 10);
                return 2;
        }
    }

    private int read(int address) {
        switch (address) {
            case 4080: return load % 256;
            case 4081: return load / 256;
            case 4082: return runs ? 1 : 0;
            case 4083: return count % 256;
            case 4084: return count / 256;
            case 4085: return pins[row];
            case 4086: return row;
            case 4087:
                int bits = 0;
                for (int b = 7; b >= 0; b--) {
                    bits = 2 * bits + (rests[b] == 0 ? 1 : 0);
                }
                return bits;
            case 4088: return keys.isEmpty() ? 0 : keys.remove(0);
            case 4089: return keys.size();
            case 4090: return strip.size() % 256;
            case 4092: return came;
            case 4093: return mask;
            case 4094:
                seed = seed * 1103515245 + 12345;
                return seed >>> 16 & 255;
            default: return address < 4080 ? store[address] : 0;
        }
    }

    private void write(int address, int b) {
        switch (address) {
            case 4080: load = load / 256 * 256 + b; break;
            case 4081: load = load % 256 + 256 * b; break;
            case 4082:
                if (!runs) {
                    count = load;
                }
                runs = b % 2 == 1;
                break;
            case 4085: turns = b % 2 == 1; break;
            case 4086: speed = b; break;
            case 4087:
                if (rests[b % 8] != 0) {
                    muffled++;
                } else {
                    if (ring.size() < 300) {
                        ring.add(new int[] {cycles, b % 8, b / 8});
                    } else {
                        lost++;
                    }
                    rests[b % 8] = 100 + 20 * (b / 8);
                }
                break;
            case 4090:
                if (strip.size() < 200) {
                    strip.add(b);
                } else {
                    lost++;
                }
                break;
            case 4091: watch = 64 * b; break;
            case 4092: came &= 255 - b; break;
            case 4093: mask = b; break;
            case 4094: seed = b; break;
            default:
                if (address < 4080) {
                    store[address] = b;
                }
        }
    }

    /** As Check.state tells it of a box. */
    String state() {
        StringBuilder all = new StringBuilder();
        int[] r = {a, x, y, s, p, f(), halted ? 1 : 0, cycles};
        for (int k = 0; k < 8; k++) {
            all.append(" r").append(k).append('=').append(r[k]);
        }
        int[] d = new int[37];
        int[] first = {load, count, runs ? 1 : 0, turns ? 1 : 0, speed, part, row, came, mask, watch, seed,
            keys.size()};
        System.arraycopy(first, 0, d, 0, 12);
        System.arraycopy(rests, 0, d, 12, 8);
        d[20] = pins[row];
        for (int k = 0; k < keys.size(); k++) {
            d[21 + k] = keys.get(k);
        }
        for (int k = 0; k < 37; k++) {
            all.append(" d").append(k).append('=').append(d[k]);
        }
        int[] about = {muffled, lost, resets, ring.size(), strip.size()};
        for (int k = 0; k < 5; k++) {
            all.append(" a").append(k + 3).append('=').append(about[k]);
        }
        for (int k = 0; k <= 256; k++) {
            if (codes[k] != 0) {
                all.append(" c").append(k).append('=').append(codes[k]);
            }
        }
        for (int[] e : ring) {
            all.append(" ring=").append(e[0]).append(':').append(e[1]).append(':').append(e[2]);
        }
        for (int b : strip) {
            all.append(" s=").append(b);
        }
        return all.toString();
    }
}
