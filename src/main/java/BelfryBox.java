import java.util.Arrays;

/**
 * A belfry's computer: a processor with its devices, an assembler for its language,
 * and a reader that tells a code in that language again.
 */
public final class BelfryBox {
    public static final int NONE = -1;

    private static final int STORE_SIZE = 4096;
    private static final int ADDRESS_BITS = 4095;
    private static final int PORTS = 4080;
    private static final int START_WORD = 4078;
    private static final int INTERRUPT_WORD = 4076;
    private static final int TRAP_WORD = 4074;
    private static final int STACK = 256;

    // All numbers that a step can change stand in one row, so that one copy keeps them.
    // Registers, devices and counts stand in the order of register(), device() and about().
    private static final int A = 0;
    private static final int X = 1;
    private static final int Y = 2;
    private static final int S = 3;
    private static final int P = 4;
    private static final int F = 5;
    private static final int HALTED = 6;
    private static final int CYCLES = 7;
    private static final int LOAD = 8;
    private static final int COUNT = 9;
    private static final int RUNS = 10;
    private static final int TURNS = 11;
    private static final int SPEED = 12;
    private static final int PART = 13;
    private static final int ROW = 14;
    private static final int CAME = 15;
    private static final int MASK = 16;
    private static final int WATCH = 17;
    private static final int SEED = 18;
    private static final int KEYS = 19;
    private static final int RESTS = 20;
    private static final int MUFFLED = 28;
    private static final int LOST = 29;
    private static final int RESETS = 30;
    private static final int RING_LENGTH = 31;
    private static final int STRIP_LENGTH = 32;
    private static final int FIRST_KEY = 33;
    private static final int ROW_SIZE = 34;

    private static final int FLAG_N = 128;
    private static final int FLAG_V = 64;
    private static final int FLAG_I = 4;
    private static final int FLAG_Z = 2;
    private static final int FLAG_C = 1;
    private static final int ALL_FLAGS = 199;

    // Below it way 0 is a value; from it on it makes a short code, another one than the other ways make.
    private static final int FIRST_SHORT_CODE = 16;
    private static final int OWN = 27;
    private static final int PSH = 28;
    private static final int CAL = 29;
    private static final int TRP = 30;
    private static final int IDL = 31;
    private static final int LAST_OWN = 31;
    private static final int INTERRUPT = 256;

    private static final int CLOCK_CAME = 1;
    private static final int DRUM_CAME = 2;
    private static final int BELL_CAME = 4;
    private static final int KEY_CAME = 8;

    private static final int MOST_KEYS = 16;
    private static final int MOST_RINGS = 300;
    private static final int MOST_STRIP = 200;
    private static final int MOST_STEPS = 2000;
    private static final int DRUM_ROWS = 64;
    private static final int BELLS = 8;

    // The words by their numbers: codes with ways, short codes, OWN's, and what lays bytes.
    private static final String WAY_WORDS =
            "ldaldxldyaddsubandoraxorcmpcpxcpytstmuldivadxadystastxstystzincdecshlshrrolrorsetclrswpadmjmpjsr";
    private static final String SHORT_WORDS = "beqbnebcsbccbmibplbvsbvcbradjxdjy---pshcaltrpidl";
    private static final String OWN_WORDS =
            "noprtsrtihlttaxtxataytyatsxtxsphaplaphxplxphyplyphfplfsecclcseicliclvinxdexinydeyinadeanegswnbcd";
    private static final String LAYING_WORDS = "org  spacebyte word text ";
    private static final int FIRST_SHORT_WORD = 32;
    private static final int FIRST_OWN_WORD = 48;
    private static final int ORG = 80;
    private static final int SPACE = 81;
    private static final int BYTE = 82;
    private static final int TEXT = 84;

    private final int[] now;
    private final int[] store;
    private final Devices devices;
    private final Past past;
    private final Processor processor;
    private final Stops stops;
    private final Tape tape;
    private final Assembler assembler;
    private final Reader reader;

    public BelfryBox() {
        now = new int[ROW_SIZE];
        store = new int[STORE_SIZE];
        devices = new Devices(now);
        past = new Past();
        processor = new Processor(now, store, devices, past);
        stops = new Stops();
        tape = new Tape();
        assembler = new Assembler(tape);
        reader = new Reader();
        processor.beginAnew();
    }

    public int feed(int a, int b, int c, int d, int e) {
        if (!tape.hasRoom(20)) {
            return NONE;
        }
        tape.add(a);
        tape.add(b);
        tape.add(c);
        tape.add(d);
        tape.add(e);
        return tape.length;
    }

    public int end(int n) {
        if (n < 0 || n > tape.length) {
            return NONE;
        }
        tape.length = n;
        return n;
    }

    public int assemble() {
        assembler.begin();
        boolean good = assembler.readLines(false) && assembler.readLines(true);
        tape.length = 0;
        if (!good) {
            return NONE;
        }
        assembler.settle(store);
        processor.beginAnew();
        return assembler.address;
    }

    public int fault(int what) {
        switch (what) {
            case 0: return assembler.faultKind;
            case 1: return assembler.faultPlace;
            default: return NONE;
        }
    }

    public int name(int k, int what) {
        return assembler.settled.tell(k, what);
    }

    public void restart() {
        processor.beginAnew();
    }

    public int peek(int a) {
        return isAddress(a) ? store[a] : NONE;
    }

    public boolean poke(int a, int v) {
        if (a < 0 || a >= PORTS || !isByte(v)) {
            return false;
        }
        store[a] = v;
        past.forget();
        return true;
    }

    public int key(int v) {
        if (!isByte(v) || now[KEYS] >= MOST_KEYS) {
            return NONE;
        }
        devices.addKey(v);
        past.forget();
        return now[KEYS];
    }

    public boolean drum(int row, int pins) {
        if (row < 0 || row >= DRUM_ROWS || !isByte(pins)) {
            return false;
        }
        devices.pins[row] = pins;
        past.forget();
        return true;
    }

    public int stop(int a, boolean on) {
        if (!isAddress(a)) {
            return NONE;
        }
        return on ? stops.set(a) : stops.lift(a);
    }

    public int run(int n) {
        if (n < 1 || n > MOST_STEPS) {
            return NONE;
        }
        return processor.doSteps(n, stops);
    }

    public int back(int n) {
        if (n < 1 || n > past.kept) {
            return NONE;
        }
        for (int i = 0; i < n; i++) {
            past.takeBack(now, store, processor.counts);
        }
        return n;
    }

    public int register(int what) {
        return what >= 0 && what <= CYCLES ? now[what] : 0;
    }

    public int device(int what) {
        if (what >= 0 && what < 20) {
            return now[LOAD + what];
        }
        if (what == 20) {
            return devices.pinsOfRow();
        }
        return what >= 21 && what < 21 + MOST_KEYS ? devices.keyAt(what - 21) : 0;
    }

    public int about(int what) {
        if (what >= 3 && what <= 7) {
            return now[MUFFLED + what - 3];
        }
        switch (what) {
            case 0: return processor.why;
            case 1: return processor.done;
            case 2: return past.kept;
            case 8: return assembler.settled.count;
            case 9: return stops.count;
            case 10: return tape.length;
            default: return 0;
        }
    }

    public int codes(int c) {
        return c >= 0 && c <= INTERRUPT ? processor.counts[c] : 0;
    }

    public int ring(int i, int what) {
        if (i < 0 || i >= now[RING_LENGTH] || what < 0 || what > 2) {
            return NONE;
        }
        return devices.rings[3 * i + what];
    }

    public int strip(int i) {
        return i >= 0 && i < now[STRIP_LENGTH] ? devices.paper[i] : NONE;
    }

    public int text(int a) {
        return isAddress(a) ? reader.tell(store, a) : NONE;
    }

    public int out(int i) {
        return i >= 0 && i < reader.length ? reader.letters[i] : NONE;
    }

    private static boolean isAddress(int a) {
        return a >= 0 && a < STORE_SIZE;
    }

    private static boolean isByte(int v) {
        return v >= 0 && v <= 255;
    }

    /** A BYTE as a number from -128 to 127. */
    private static int signed(int b) {
        return b > 127 ? b - 256 : b;
    }

    private static boolean isShort(int code) {
        return (code & 7) == 0 && code >> 3 >= FIRST_SHORT_CODE;
    }

    /** Of the short codes: branches and CAL take a distance. */
    private static boolean takesValue(int o) {
        return o == PSH || o == TRP || o == IDL;
    }

    /** The addresses at which run() stops. */
    private static final class Stops {
        private static final int MOST = 16;

        private final int[] places = new int[MOST];
        private int count;

        int set(int a) {
            if (find(a) != NONE) {
                return count;
            }
            if (count >= MOST) {
                return NONE;
            }
            places[count] = a;
            count++;
            return count;
        }

        int lift(int a) {
            int k = find(a);
            if (k != NONE) {
                count--;
                places[k] = places[count];
            }
            return count;
        }

        int find(int a) {
            for (int k = 0; k < count; k++) {
                if (places[k] == a) {
                    return k;
                }
            }
            return NONE;
        }
    }

    /**
     * The latest steps, each with the row as it was ahead of it, its code, and the bytes of the
     * store that it wrote over. Keys, rings and paper need no copies: their lengths stand in the
     * row, and what stood there stays as long as a step is kept.
     */
    private static final class Past {
        private static final int MOST = 256;
        private static final int CODE = ROW_SIZE;
        private static final int WRITES = ROW_SIZE + 1;
        private static final int FIRST_WRITE = ROW_SIZE + 2;
        // An interrupt or a trap pushes three bytes; no step writes more.
        private static final int MOST_WRITES = 3;
        private static final int ENTRY = FIRST_WRITE + 2 * MOST_WRITES;

        private final int[] entries = new int[MOST * ENTRY];
        private int latest;
        private int kept;

        void forget() {
            kept = 0;
        }

        void keep(int[] row) {
            latest = (latest + 1) % MOST;
            kept = Math.min(kept + 1, MOST);
            System.arraycopy(row, 0, entries, latest * ENTRY, ROW_SIZE);
            entries[latest * ENTRY + WRITES] = 0;
        }

        void keepCode(int code) {
            entries[latest * ENTRY + CODE] = code;
        }

        void keepByte(int address, int old) {
            int entry = latest * ENTRY;
            int writes = entries[entry + WRITES];
            if (writes < MOST_WRITES) {
                entries[entry + FIRST_WRITE + 2 * writes] = address;
                entries[entry + FIRST_WRITE + 2 * writes + 1] = old;
                entries[entry + WRITES] = writes + 1;
            }
        }

        void takeBack(int[] row, int[] store, int[] counts) {
            int entry = latest * ENTRY;
            System.arraycopy(entries, entry, row, 0, ROW_SIZE);
            counts[entries[entry + CODE]]--;
            // The last write first: two may have met at one address.
            for (int k = entries[entry + WRITES] - 1; k >= 0; k--) {
                store[entries[entry + FIRST_WRITE + 2 * k]] = entries[entry + FIRST_WRITE + 2 * k + 1];
            }
            latest = (latest + MOST - 1) % MOST;
            kept--;
        }
    }

    /** Clock, drum, bells, keys, strip, watch and dice, as the ports show them. */
    private static final class Devices {
        private final int[] now;
        private final int[] pins = new int[DRUM_ROWS];
        private final int[] waiting = new int[MOST_KEYS];
        private final int[] rings = new int[3 * MOST_RINGS];
        private final int[] paper = new int[MOST_STRIP];

        Devices(int[] now) {
            this.now = now;
        }

        boolean lineIsOn() {
            return (now[CAME] & now[MASK]) != 0;
        }

        int pinsOfRow() {
            return pins[now[ROW] % DRUM_ROWS];
        }

        void addKey(int v) {
            waiting[(now[FIRST_KEY] + now[KEYS]) % MOST_KEYS] = v;
            now[KEYS]++;
            now[CAME] |= KEY_CAME;
        }

        int keyAt(int i) {
            return i < now[KEYS] ? waiting[(now[FIRST_KEY] + i) % MOST_KEYS] : 0;
        }

        int readPort(int port) {
            switch (port) {
                case 0: return now[LOAD] & 255;
                case 1: return now[LOAD] >> 8;
                case 2: return now[RUNS];
                case 3: return now[COUNT] & 255;
                case 4: return now[COUNT] >> 8;
                case 5: return pinsOfRow();
                case 6: return now[ROW];
                case 7: return bellsReady();
                case 8: return takeKey();
                case 9: return now[KEYS];
                case 10: return now[STRIP_LENGTH] & 255;
                case 12: return now[CAME];
                case 13: return now[MASK];
                case 14: return castDice();
                default: return 0;
            }
        }

        void writePort(int port, int v) {
            switch (port) {
                case 0: now[LOAD] = now[LOAD] & 0xff00 | v; break;
                case 1: now[LOAD] = now[LOAD] & 255 | v << 8; break;
                case 2: setClock(v & 1); break;
                case 5: now[TURNS] = v & 1; break;
                case 6: now[SPEED] = v; break;
                case 7: strike(v & 7, v >> 3); break;
                case 10: print(v); break;
                case 11: now[WATCH] = 64 * v; break;
                case 12: now[CAME] &= ~v; break;
                case 13: now[MASK] = v; break;
                case 14: now[SEED] = v; break;
                default: break;
            }
        }

        /** The document asks only whether the clock ran until now: a write of 0 to one that stands loads it too. */
        private void setClock(int on) {
            if (now[RUNS] == 0) {
                now[COUNT] = now[LOAD];
            }
            now[RUNS] = on;
        }

        private int bellsReady() {
            int bits = 0;
            for (int bell = 0; bell < BELLS; bell++) {
                if (now[RESTS + bell] == 0) {
                    bits |= 1 << bell;
                }
            }
            return bits;
        }

        private int takeKey() {
            if (now[KEYS] == 0) {
                return 0;
            }
            int v = waiting[now[FIRST_KEY] % MOST_KEYS];
            now[FIRST_KEY] = (now[FIRST_KEY] + 1) % MOST_KEYS;
            now[KEYS]--;
            return v;
        }

        private int castDice() {
            now[SEED] = now[SEED] * 1103515245 + 12345;
            return now[SEED] >> 16 & 255;
        }

        private void strike(int bell, int force) {
            if (now[RESTS + bell] > 0) {
                now[MUFFLED]++;
                return;
            }
            now[RESTS + bell] = 100 + 20 * force;
            int length = now[RING_LENGTH];
            if (length >= MOST_RINGS) {
                now[LOST]++;
                return;
            }
            rings[3 * length] = now[CYCLES];
            rings[3 * length + 1] = bell;
            rings[3 * length + 2] = force;
            now[RING_LENGTH] = length + 1;
        }

        private void print(int v) {
            int length = now[STRIP_LENGTH];
            if (length >= MOST_STRIP) {
                now[LOST]++;
                return;
            }
            paper[length] = v;
            now[STRIP_LENGTH] = length + 1;
        }

        /**
         * Lets the cycles of a step pass; true if the watch ran out in them. Each device takes
         * them all at once: none looks at another, and bits of CAME only come in.
         */
        boolean pass(int cycles) {
            now[CYCLES] += cycles;
            if (now[RUNS] != 0) {
                passClock(cycles);
            }
            if (now[TURNS] != 0) {
                passDrum(cycles);
            }
            passBells(cycles);
            boolean ranOut = now[WATCH] > 0 && now[WATCH] <= cycles;
            now[WATCH] = Math.max(0, now[WATCH] - cycles);
            return ranOut;
        }

        private void passClock(int cycles) {
            for (int i = 0; i < cycles; i++) {
                if (now[COUNT] == 0) {
                    now[COUNT] = now[LOAD];
                    now[CAME] |= CLOCK_CAME;
                } else {
                    now[COUNT]--;
                }
            }
        }

        private void passDrum(int cycles) {
            int parts = 8 * (now[SPEED] + 1);
            for (int i = 0; i < cycles; i++) {
                now[PART]++;
                if (now[PART] >= parts) {
                    now[PART] = 0;
                    now[ROW] = (now[ROW] + 1) % DRUM_ROWS;
                    if (pinsOfRow() != 0) {
                        now[CAME] |= DRUM_CAME;
                    }
                }
            }
        }

        private void passBells(int cycles) {
            for (int rest = RESTS; rest < RESTS + BELLS; rest++) {
                if (now[rest] > cycles) {
                    now[rest] -= cycles;
                } else if (now[rest] > 0) {
                    now[rest] = 0;
                    now[CAME] |= BELL_CAME;
                }
            }
        }
    }

    /** Does the codes. */
    private static final class Processor {
        private static final int STOPPED = 1;
        private static final int WAS_HALTED = 2;
        private static final int ILLEGAL = 3;

        private static final int[] WAY_CYCLES = {2, 3, 4, 4, 5, 5, 6, 7};
        private static final int[] MORE_CYCLES = {
            0, 0, 0, 0, 0, 0, 0, 0, 0, 0, 0, 0, 8, 12, 0, 0,
            1, 1, 1, 1, 2, 2, 2, 2, 2, 2, 2, 2, 2, 2, 0, 2};

        private final int[] now;
        private final int[] store;
        private final Devices devices;
        private final Past past;
        private final int[] counts = new int[INTERRUPT + 1];
        private int why;
        private int done;

        Processor(int[] now, int[] store, Devices devices, Past past) {
            this.now = now;
            this.store = store;
            this.devices = devices;
            this.past = past;
        }

        void beginAnew() {
            Arrays.fill(now, 0);
            now[SEED] = 1;
            start();
            Arrays.fill(counts, 0);
            past.forget();
        }

        private void start() {
            now[A] = 0;
            now[X] = 0;
            now[Y] = 0;
            now[S] = 255;
            now[F] = FLAG_I;
            now[P] = placeAt(START_WORD);
            now[HALTED] = 0;
        }

        private void reset() {
            start();
            now[RUNS] = 0;
            now[TURNS] = 0;
            now[CAME] = 0;
            now[MASK] = 0;
            now[RESETS]++;
        }

        int doSteps(int n, Stops stops) {
            why = 0;
            done = 0;
            for (int i = 0; i < n; i++) {
                why = whyToEnd(i > 0 && stops.find(now[P]) != NONE);
                if (why != 0) {
                    break;
                }
                doStep();
                done++;
            }
            return done;
        }

        private int whyToEnd(boolean stopped) {
            if (stopped) {
                return STOPPED;
            }
            if (now[HALTED] != 0) {
                return WAS_HALTED;
            }
            boolean illegal = byteAt(now[P]) == 8 * OWN && byteAt(now[P] + 1) > LAST_OWN;
            return illegal && !interruptComes() ? ILLEGAL : 0;
        }

        private boolean interruptComes() {
            return (now[F] & FLAG_I) == 0 && devices.lineIsOn();
        }

        private void doStep() {
            past.keep(now);
            int code = interruptComes() ? INTERRUPT : takeByte();
            past.keepCode(code);
            counts[code]++;
            int cycles = code == INTERRUPT ? interrupt() : doCode(code);
            if (devices.pass(cycles)) {
                reset();
            }
        }

        private int interrupt() {
            enter(INTERRUPT_WORD);
            return 7;
        }

        /** Keeps P and the flags on the stack, and goes on where the word at an address says. */
        private void enter(int word) {
            push(now[P] >> 8);
            push(now[P] & 255);
            push(now[F]);
            now[F] |= FLAG_I;
            now[P] = placeAt(word);
        }

        /** Does a code: how many cycles it takes. */
        private int doCode(int code) {
            int o = code >> 3;
            int way = code & 7;
            if (isShort(code)) {
                int b = takeByte();
                return o == OWN ? doOwn(b) : doShort(o, b);
            }
            if (o < FIRST_SHORT_CODE) {
                useValue(o, way == 0 ? takeByte() : readAt(findAddress(way)));
            } else {
                useAddress(o, findAddress(way));
            }
            return WAY_CYCLES[way] + MORE_CYCLES[o];
        }

        private int byteAt(int address) {
            return store[address & ADDRESS_BITS];
        }

        private int takeByte() {
            int b = byteAt(now[P]);
            now[P] = now[P] + 1 & ADDRESS_BITS;
            return b;
        }

        private int takeWord() {
            int low = takeByte();
            return low + 256 * takeByte();
        }

        private int findAddress(int way) {
            switch (way) {
                case 1: return takeByte();
                case 2: return takeByte() + now[X] & 255;
                case 3: return takeWord() & ADDRESS_BITS;
                case 4: return takeWord() + now[X] & ADDRESS_BITS;
                case 5: return takeWord() + now[Y] & ADDRESS_BITS;
                case 6: return pointerAt(takeByte()) & ADDRESS_BITS;
                default: return pointerAt(takeByte()) + now[Y] & ADDRESS_BITS;
            }
        }

        private int pointerAt(int d) {
            return byteAt(d) + 256 * byteAt(d + 1 & 255);
        }

        private int placeAt(int word) {
            return byteAt(word) + 256 * byteAt(word + 1) & ADDRESS_BITS;
        }

        private int readAt(int address) {
            return address >= PORTS ? devices.readPort(address - PORTS) : byteAt(address);
        }

        private void writeAt(int address, int b) {
            if (address >= PORTS) {
                devices.writePort(address - PORTS, b);
            } else {
                past.keepByte(address, store[address]);
                store[address] = b;
            }
        }

        private void push(int b) {
            int address = STACK + now[S];
            past.keepByte(address, store[address]);
            store[address] = b;
            now[S] = now[S] - 1 & 255;
        }

        private void pushPlace() {
            push(now[P] >> 8);
            push(now[P] & 255);
        }

        private int pull() {
            now[S] = now[S] + 1 & 255;
            return store[STACK + now[S]];
        }

        private void pullPlace() {
            int low = pull();
            now[P] = low + 256 * pull() & ADDRESS_BITS;
        }

        private void setFlag(int flag, boolean on) {
            now[F] = on ? now[F] | flag : now[F] & ~flag;
        }

        private void setNz(int b) {
            now[F] = now[F] & ~(FLAG_N | FLAG_Z) | b & FLAG_N | (b == 0 ? FLAG_Z : 0);
        }

        private int carry() {
            return now[F] & FLAG_C;
        }

        private void set(int register, int b) {
            now[register] = b & 255;
            setNz(b & 255);
        }

        private void useValue(int o, int v) {
            switch (o) {
                case 0: set(A, v); break;
                case 1: set(X, v); break;
                case 2: set(Y, v); break;
                case 3: add(v); break;
                case 4: add(255 - v); break;
                case 5: set(A, now[A] & v); break;
                case 6: set(A, now[A] | v); break;
                case 7: set(A, now[A] ^ v); break;
                case 8: compare(now[A], v); break;
                case 9: compare(now[X], v); break;
                case 10: compare(now[Y], v); break;
                case 11: test(v); break;
                case 12: multiply(v); break;
                case 13: divide(v); break;
                case 14: addTo(X, v); break;
                default: addTo(Y, v); break;
            }
        }

        private void add(int v) {
            int a = now[A];
            int r = a + v + carry();
            setFlag(FLAG_V, (a & 128) == (v & 128) && (r & 128) != (a & 128));
            setFlag(FLAG_C, r > 255);
            set(A, r);
        }

        private void addTo(int register, int v) {
            int r = now[register] + v;
            setFlag(FLAG_C, r > 255);
            set(register, r);
        }

        private void compare(int b, int v) {
            setFlag(FLAG_C, b >= v);
            setNz(b - v & 255);
        }

        private void test(int v) {
            setFlag(FLAG_Z, (now[A] & v) == 0);
            setFlag(FLAG_N, (v & 128) != 0);
            setFlag(FLAG_V, (v & 64) != 0);
        }

        private void multiply(int v) {
            int r = now[A] * v;
            now[Y] = r >> 8;
            setFlag(FLAG_C, now[Y] != 0);
            set(A, r);
        }

        private void divide(int v) {
            int r = 256 * now[Y] + now[A];
            boolean fits = v != 0 && r / v <= 255;
            setFlag(FLAG_V, !fits);
            setFlag(FLAG_C, !fits);
            if (v != 0 && fits) {
                now[Y] = r % v;
                set(A, r / v);
            }
        }

        private void useAddress(int o, int address) {
            switch (o) {
                case 16: writeAt(address, now[A]); break;
                case 17: writeAt(address, now[X]); break;
                case 18: writeAt(address, now[Y]); break;
                case 19: writeAt(address, 0); break;
                case 30: now[P] = address; break;
                case 31: pushPlace(); now[P] = address; break;
                default: writeAt(address, changed(o, readAt(address))); break;
            }
        }

        /** What a code that changes a byte makes of it, with the flags. */
        private int changed(int o, int v) {
            int r = v;
            switch (o) {
                case 20: r = v + 1; break;
                case 21: r = v - 1; break;
                case 22: r = shiftedLeft(v, 0); break;
                case 23: r = shiftedRight(v, 0); break;
                case 24: r = shiftedLeft(v, carry()); break;
                case 25: r = shiftedRight(v, carry()); break;
                case 26: r = v | now[A]; break;
                case 27: r = v & ~now[A]; break;
                case 28: r = now[A]; now[A] = v; break;
                default: r = v + now[A]; setFlag(FLAG_C, r > 255); break;
            }
            setNz(o == 28 ? v : r & 255);
            return r & 255;
        }

        private int shiftedLeft(int v, int low) {
            setFlag(FLAG_C, (v & 128) != 0);
            return 2 * v + low;
        }

        private int shiftedRight(int v, int high) {
            setFlag(FLAG_C, (v & 1) != 0);
            return v / 2 + 128 * high;
        }

        /** Does a short code (but OWN): how many cycles it takes. */
        private int doShort(int o, int b) {
            switch (o) {
                case PSH:
                    push(b);
                    return 3;
                case CAL:
                    pushPlace();
                    goBy(b);
                    return 5;
                case TRP:
                    enter(TRAP_WORD);
                    now[A] = b;
                    return 7;
                case IDL:
                    return 2 + b;
                default:
                    return branch(o, b);
            }
        }

        private void goBy(int b) {
            now[P] = now[P] + signed(b) & ADDRESS_BITS;
        }

        private int branch(int o, int b) {
            if (!branchIsDue(o)) {
                return 2;
            }
            goBy(b);
            return 3;
        }

        private boolean branchIsDue(int o) {
            switch (o) {
                case 16: return (now[F] & FLAG_Z) != 0;
                case 17: return (now[F] & FLAG_Z) == 0;
                case 18: return (now[F] & FLAG_C) != 0;
                case 19: return (now[F] & FLAG_C) == 0;
                case 20: return (now[F] & FLAG_N) != 0;
                case 21: return (now[F] & FLAG_N) == 0;
                case 22: return (now[F] & FLAG_V) != 0;
                case 23: return (now[F] & FLAG_V) == 0;
                case 25: return oneLess(X);
                case 26: return oneLess(Y);
                default: return true;
            }
        }

        /** A loop's register is one less; true if it is not 0 then. */
        private boolean oneLess(int register) {
            now[register] = now[register] - 1 & 255;
            return now[register] != 0;
        }

        private int doOwn(int b) {
            if (b < 4) {
                return doEnding(b);
            }
            if (b < 10) {
                move(b);
                return 2;
            }
            if (b < 18) {
                useStack(b);
                return 3;
            }
            if (b < 23) {
                changeFlag(b);
            } else {
                changeRegister(b);
            }
            return 2;
        }

        private int doEnding(int b) {
            if (b == 0) {
                return 2;
            }
            if (b == 3) {
                now[HALTED] = 1;
                return 2;
            }
            if (b == 2) {
                now[F] = pull() & ALL_FLAGS;
            }
            pullPlace();
            return 6;
        }

        private void move(int b) {
            switch (b) {
                case 4: set(X, now[A]); break;
                case 5: set(A, now[X]); break;
                case 6: set(Y, now[A]); break;
                case 7: set(A, now[Y]); break;
                case 8: set(X, now[S]); break;
                default: now[S] = now[X]; break;
            }
        }

        private void useStack(int b) {
            switch (b) {
                case 10: push(now[A]); break;
                case 11: set(A, pull()); break;
                case 12: push(now[X]); break;
                case 13: set(X, pull()); break;
                case 14: push(now[Y]); break;
                case 15: set(Y, pull()); break;
                case 16: push(now[F]); break;
                default: now[F] = pull() & ALL_FLAGS; break;
            }
        }

        private void changeFlag(int b) {
            switch (b) {
                case 18: setFlag(FLAG_C, true); break;
                case 19: setFlag(FLAG_C, false); break;
                case 20: setFlag(FLAG_I, true); break;
                case 21: setFlag(FLAG_I, false); break;
                default: setFlag(FLAG_V, false); break;
            }
        }

        private void changeRegister(int b) {
            switch (b) {
                case 23: set(X, now[X] + 1); break;
                case 24: set(X, now[X] - 1); break;
                case 25: set(Y, now[Y] + 1); break;
                case 26: set(Y, now[Y] - 1); break;
                case 27: set(A, now[A] + 1); break;
                case 28: set(A, now[A] - 1); break;
                case 29: set(A, 256 - now[A]); break;
                case 30: set(A, now[A] << 4 | now[A] >> 4); break;
                default: set(A, decimals()); break;
            }
        }

        /** A's last two decimals, four bits each; the hundreds show in C alone. */
        private int decimals() {
            int rest = now[A] % 100;
            setFlag(FLAG_C, now[A] >= 100);
            return 16 * (rest / 10) + rest % 10;
        }
    }

    /** Tells the code at an address in the language; the text stays until the next one. */
    private static final class Reader {
        private static final int MOST = 16;

        private final int[] letters = new int[MOST];
        private int length;

        /** How many bytes the code has. */
        int tell(int[] store, int a) {
            int code = store[a & ADDRESS_BITS];
            int low = store[a + 1 & ADDRESS_BITS];
            int high = store[a + 2 & ADDRESS_BITS];
            int o = code >> 3;
            int way = code & 7;
            length = 0;
            if (isShort(code)) {
                tellShort(o, low);
                return 2;
            }
            boolean wide = way >= 3 && way <= 5;
            putWord(WAY_WORDS, o);
            put(' ');
            tellWay(way, wide ? low + 256 * high : low);
            return wide ? 3 : 2;
        }

        private void tellWay(int way, int number) {
            if (way == 0) {
                put('#');
            } else if (way <= 2) {
                put('<');
            } else if (way >= 6) {
                put('(');
            }
            putNumber(number);
            if (way >= 6) {
                put(')');
            }
            if (way == 2 || way == 4) {
                put(',');
                put('x');
            } else if (way == 5 || way == 7) {
                put(',');
                put('y');
            }
        }

        private void tellShort(int o, int b) {
            if (o == OWN && b <= LAST_OWN) {
                putWord(OWN_WORDS, b);
                return;
            }
            if (o == OWN) {
                putIllegal(b);
                return;
            }
            putWord(SHORT_WORDS, o - FIRST_SHORT_CODE);
            put(' ');
            if (takesValue(o)) {
                put('#');
                putNumber(b);
                return;
            }
            // The language counts from where the line begins, the code from behind itself.
            int distance = signed(b) + 2;
            put('.');
            put(distance < 0 ? '-' : '+');
            putNumber(Math.abs(distance));
        }

        private void putIllegal(int b) {
            put('b');
            put('y');
            put('t');
            put('e');
            put(' ');
            putNumber(8 * OWN);
            put(',');
            putNumber(b);
        }

        private void putWord(String words, int k) {
            for (int i = 3 * k; i < 3 * k + 3 && i < words.length(); i++) {
                put(words.charAt(i));
            }
        }

        private void putNumber(int number) {
            for (int unit = 10000; unit >= 1; unit /= 10) {
                if (number >= unit || unit == 1) {
                    put('0' + number / unit % 10);
                }
            }
        }

        private void put(int letter) {
            if (length < MOST) {
                letters[length] = letter;
                length++;
            }
        }
    }

    /** The bytes of a text, and the token that is read in it. */
    private static final class Tape {
        private static final int MOST = 6000;
        private static final int LONGEST_NAME = 8;
        private static final String MARKS = ":=;,#<()+-%&.\"";

        // The kind of a mark, and of x and y, is its byte; these are above all bytes.
        private static final int END = 256;
        private static final int NAME = 257;
        private static final int WORD = 258;
        private static final int NUMBER = 259;
        private static final int NO_TOKEN = 260;

        private final int[] bytes = new int[MOST];
        private int length;
        private int lineEnd;
        private int at;
        private int kind;
        private int place;
        private int letters;
        private int value;
        private int missing;

        boolean hasRoom(int more) {
            return length + more <= MOST;
        }

        void add(int four) {
            for (int shift = 24; shift >= 0 && length < MOST; shift -= 8) {
                bytes[length] = four >> shift & 255;
                length++;
            }
        }

        void beginLine(int start) {
            at = start;
            lineEnd = start;
            while (lineEnd < length && bytes[lineEnd] != '\n') {
                lineEnd++;
            }
        }

        /** Reads the next token of the line; where it lacks a byte, missing tells the place. */
        void next() {
            while (at < lineEnd && bytes[at] == ' ') {
                at++;
            }
            place = at;
            missing = NONE;
            if (at >= lineEnd) {
                kind = END;
                return;
            }
            int b = bytes[at];
            if (isLetter(b)) {
                readLetters();
                if (kind == NAME) {
                    value = Math.max(wordIn(WAY_WORDS, 3, 0), wordIn(SHORT_WORDS, 3, FIRST_SHORT_WORD));
                    value = Math.max(value, wordIn(OWN_WORDS, 3, FIRST_OWN_WORD));
                    value = Math.max(value, wordIn(LAYING_WORDS, 5, ORG));
                    kind = value == NONE ? NAME : WORD;
                }
            } else if (b == '\'') {
                readQuoted();
            } else if (b == '$') {
                at++;
                readDigits(16, 4);
            } else if (digit(b) != NONE) {
                readDigits(10, 5);
            } else {
                at++;
                kind = MARKS.indexOf((char) b) >= 0 ? b : NO_TOKEN;
            }
        }

        private void readLetters() {
            int first = bytes[at];
            while (at < lineEnd && (isLetter(bytes[at]) || isDecimal(bytes[at]))) {
                at++;
            }
            letters = at - place;
            if (letters > LONGEST_NAME) {
                kind = NO_TOKEN;
                place += LONGEST_NAME;
                return;
            }
            if (letters == 1 && (first == 'x' || first == 'y')) {
                kind = first;
                return;
            }
            kind = NAME;
        }

        /** The number of the word that the letters are, or NONE; words shorter than the width end with blanks. */
        private int wordIn(String words, int width, int firstNumber) {
            if (letters < 3 || letters > width) {
                return NONE;
            }
            for (int k = 0; width * (k + 1) <= words.length(); k++) {
                int same = 0;
                while (same < letters && words.charAt(width * k + same) == bytes[place + same]) {
                    same++;
                }
                if (same == letters && (same == width || words.charAt(width * k + same) == ' ')) {
                    return firstNumber + k;
                }
            }
            return NONE;
        }

        private void readQuoted() {
            kind = NUMBER;
            at++;
            if (at < lineEnd && bytes[at] >= 32 && bytes[at] <= 126) {
                value = bytes[at];
                at++;
            } else {
                missing = at;
            }
        }

        private void readDigits(int base, int most) {
            kind = NUMBER;
            value = 0;
            int first = at;
            while (at < lineEnd && at < first + most) {
                int d = digit(bytes[at]);
                if (d == NONE || d >= base) {
                    break;
                }
                value = value * base + d;
                at++;
            }
            if (at == first) {
                missing = at;
            }
        }

        boolean sameLetters(int one, int other, int count) {
            for (int i = 0; i < count; i++) {
                if (bytes[one + i] != bytes[other + i]) {
                    return false;
                }
            }
            return true;
        }

        private static boolean isLetter(int b) {
            return b >= 'a' && b <= 'z';
        }

        private static boolean isDecimal(int b) {
            return b >= '0' && b <= '9';
        }

        private static int digit(int b) {
            if (b >= '0' && b <= '9') {
                return b - '0';
            }
            return b >= 'a' && b <= 'f' ? b - 'a' + 10 : NONE;
        }
    }

    /** The names of a text, in the order in which they are told. */
    private static final class Names {
        private static final int MOST = 60;

        private final int[] places = new int[MOST];
        private final int[] letters = new int[MOST];
        private final int[] values = new int[MOST];
        private final int[] equations = new int[MOST];
        private int count;

        boolean isFull() {
            return count >= MOST;
        }

        int find(Tape tape, int place, int length) {
            for (int k = 0; k < count; k++) {
                if (letters[k] == length && tape.sameLetters(places[k], place, length)) {
                    return k;
                }
            }
            return NONE;
        }

        void add(int place, int length, int value, boolean equation) {
            if (count < MOST) {
                places[count] = place;
                letters[count] = length;
                values[count] = value;
                equations[count] = equation ? 1 : 0;
                count++;
            }
        }

        int tell(int k, int what) {
            if (k < 0 || k >= count) {
                return 0;
            }
            switch (what) {
                case 0: return values[k];
                case 1: return places[k];
                case 2: return equations[k];
                default: return 0;
            }
        }
    }

    /**
     * Reads a text twice: first for the names and the places of the lines, then for what they lay.
     * A method that reads a part of a line answers false when it has found a FAULT.
     */
    private static final class Assembler {
        private static final int SYNTAX = 1;
        private static final int UNKNOWN = 2;
        private static final int TOLD_ALREADY = 3;
        private static final int RANGE = 4;
        private static final int ROOM = 5;
        private static final int TOO_MANY = 6;

        private final Tape tape;
        // What is laid comes here first: the store stays if there is a FAULT.
        private final int[] image = new int[STORE_SIZE];
        private Names told = new Names();
        private Names settled = new Names();
        private int faultKind = NONE;
        private int faultPlace = NONE;
        private int address;
        private boolean laying;

        // Of the line that is read:
        private int namePlace;
        private int nameLetters;
        private boolean equation;
        private int word;
        private int wordPlace;
        private int size;
        private int sum;
        private int sumPlace;
        private int unknownPlace;
        private int rangePlace;

        Assembler(Tape tape) {
            this.tape = tape;
        }

        void begin() {
            told.count = 0;
            faultKind = 0;
            faultPlace = NONE;
            Arrays.fill(image, 0);
        }

        void settle(int[] store) {
            System.arraycopy(image, 0, store, 0, STORE_SIZE);
            Names older = settled;
            settled = told;
            told = older;
        }

        boolean readLines(boolean second) {
            laying = second;
            address = 0;
            int start = 0;
            for (int line = 0; line <= Tape.MOST && start <= tape.length; line++) {
                beginLine(start);
                boolean good = readName() && readWord() && readRemark()
                        && (second ? checkSecond() : checkFirst());
                if (!good) {
                    return false;
                }
                address = word == ORG ? sum : address + size;
                start = tape.lineEnd + 1;
            }
            return true;
        }

        private void beginLine(int start) {
            namePlace = NONE;
            equation = false;
            word = NONE;
            size = 0;
            unknownPlace = NONE;
            rangePlace = NONE;
            tape.beginLine(start);
            tape.next();
        }

        private boolean fail(int kind, int place) {
            faultKind = kind;
            faultPlace = place;
            return false;
        }

        private boolean failHere() {
            return fail(SYNTAX, tape.place);
        }

        private boolean readName() {
            if (tape.kind != Tape.NAME) {
                return true;
            }
            namePlace = tape.place;
            nameLetters = tape.letters;
            tape.next();
            equation = tape.kind == '=';
            if (!equation && tape.kind != ':') {
                return failHere();
            }
            tape.next();
            return true;
        }

        private boolean readWord() {
            if (equation) {
                return readSum();
            }
            if (tape.kind != Tape.WORD) {
                return true;
            }
            word = tape.value;
            wordPlace = tape.place;
            tape.next();
            if (word < FIRST_SHORT_WORD) {
                return readWay(word);
            }
            if (word < FIRST_OWN_WORD) {
                return readShort(word - FIRST_SHORT_WORD + FIRST_SHORT_CODE);
            }
            if (word < ORG) {
                lay(8 * OWN);
                lay(word - FIRST_OWN_WORD);
                return true;
            }
            if (word == ORG || word == SPACE) {
                return readSum();
            }
            return word == TEXT ? readText() : readList();
        }

        private boolean readRemark() {
            return tape.kind == Tape.END || tape.kind == ';' || failHere();
        }

        private boolean readWay(int o) {
            int mark = tape.kind;
            int way = 3;
            if (mark == '#' && o < FIRST_SHORT_CODE) {
                way = 0;
            } else if (mark == '<') {
                way = 1;
            } else if (mark == '(') {
                way = 6;
            }
            if (way != 3) {
                tape.next();
            }
            if (!readSum()) {
                return false;
            }
            needRange(way == 0 ? -128 : 0, way == 3 ? 65535 : 255);
            if (way == 6) {
                if (tape.kind != ')') {
                    return failHere();
                }
                tape.next();
            }
            if (way != 0 && tape.kind == ',') {
                tape.next();
                boolean byX = tape.kind == 'x' && way != 6;
                boolean byY = tape.kind == 'y' && way != 1;
                if (!byX && !byY) {
                    return failHere();
                }
                way += byY && way == 3 ? 2 : 1;
                tape.next();
            }
            lay(8 * o + way);
            lay(sum);
            if (way >= 3 && way <= 5) {
                lay(sum >> 8);
            }
            return true;
        }

        private boolean readShort(int o) {
            boolean value = takesValue(o);
            if (value) {
                if (tape.kind != '#') {
                    return failHere();
                }
                tape.next();
            }
            if (!readSum()) {
                return false;
            }
            if (value) {
                needRange(-128, 255);
            } else {
                sum -= address + 2;
                needRange(-128, 127);
            }
            lay(8 * o);
            lay(sum);
            return true;
        }

        private boolean readText() {
            if (tape.kind != '"') {
                return failHere();
            }
            while (tape.at < tape.lineEnd) {
                int b = tape.bytes[tape.at];
                if (b < 32 || b > 126) {
                    break;
                }
                tape.at++;
                if (b == '"') {
                    tape.next();
                    return true;
                }
                lay(b);
            }
            return fail(SYNTAX, tape.at);
        }

        private boolean readList() {
            for (int i = 0; i < Tape.MOST; i++) {
                if (!readSum()) {
                    return false;
                }
                lay(sum);
                if (word == BYTE) {
                    needRange(-128, 255);
                } else {
                    needRange(-32768, 65535);
                    lay(sum >> 8);
                }
                if (tape.kind != ',') {
                    return true;
                }
                tape.next();
            }
            return failHere();
        }

        private boolean readSum() {
            sum = 0;
            sumPlace = tape.place;
            boolean minus = tape.kind == '-';
            if (minus) {
                tape.next();
            }
            for (int i = 0; i < Tape.MOST; i++) {
                int part = tape.kind;
                if (part == '%' || part == '&') {
                    tape.next();
                }
                if (tape.missing != NONE) {
                    return fail(SYNTAX, tape.missing);
                }
                if (tape.kind != Tape.NUMBER && tape.kind != Tape.NAME && tape.kind != '.') {
                    return failHere();
                }
                int term = partOf(part, termHere());
                sum += minus ? -term : term;
                tape.next();
                if (tape.kind != '+' && tape.kind != '-') {
                    return true;
                }
                minus = tape.kind == '-';
                tape.next();
            }
            return failHere();
        }

        private static int partOf(int part, int term) {
            if (part == '%') {
                return term >> 8 & 255;
            }
            return part == '&' ? term & 255 : term;
        }

        private int termHere() {
            if (tape.kind == Tape.NUMBER) {
                return tape.value;
            }
            if (tape.kind == '.') {
                return address;
            }
            int k = told.find(tape, tape.place, tape.letters);
            if (k == NONE && unknownPlace == NONE) {
                unknownPlace = tape.place;
            }
            return told.tell(k, 0);
        }

        private void needRange(int least, int most) {
            if (rangePlace == NONE && (sum < least || sum > most)) {
                rangePlace = sumPlace;
            }
        }

        private void lay(int b) {
            int a = address + size;
            if (laying && a >= 0 && a < PORTS) {
                image[a] = b & 255;
            }
            size++;
        }

        /** What the first reading looks for in a line, in the document's order; then its name is told. */
        private boolean checkFirst() {
            boolean named = namePlace != NONE;
            if (named && told.find(tape, namePlace, nameLetters) != NONE) {
                return fail(TOLD_ALREADY, namePlace);
            }
            if (named && told.isFull()) {
                return fail(TOO_MANY, namePlace);
            }
            boolean neededNow = equation || word == ORG || word == SPACE;
            if (neededNow && unknownPlace != NONE) {
                return fail(UNKNOWN, unknownPlace);
            }
            if (word == ORG && (sum < 0 || sum >= PORTS) || word == SPACE && (sum < 0 || sum > PORTS)) {
                return fail(RANGE, sumPlace);
            }
            leaveSpace();
            if (address + size > PORTS) {
                return fail(ROOM, wordPlace);
            }
            if (named) {
                told.add(namePlace, nameLetters, equation || word == ORG ? sum : address, equation);
            }
            return true;
        }

        private boolean checkSecond() {
            if (unknownPlace != NONE) {
                return fail(UNKNOWN, unknownPlace);
            }
            if (rangePlace != NONE) {
                return fail(RANGE, rangePlace);
            }
            leaveSpace();
            return true;
        }

        private void leaveSpace() {
            if (word == SPACE) {
                size = sum;
            }
        }
    }
}
