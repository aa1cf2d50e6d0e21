import java.util.NoSuchElementException;

/** A small machine of sixteen bits that naps, with its assembler and its reader. */
public final class NapMachine {
    public static final int NONE = -1;

    private static final int TAPE_ROOM = 2600;
    private static final int MOST_STEPS = 5000;
    private static final int MEMORY_BYTES = 65536;
    private static final int REGISTERS = 16;

    private final int[] tape = new int[TAPE_ROOM];
    private final Bus bus = new Bus();
    private final Core core = new Core(bus);
    private final Assembler assembler = new Assembler(tape);
    private final Reader reader = new Reader(bus);
    private int tapeLength;
    private int latestSteps;

    public NapMachine() {
    }

    public int feed(int a, int b, int c, int d, int e) {
        if (tapeLength + 20 > TAPE_ROOM) {
            return NONE;
        }
        putNumber(a);
        putNumber(b);
        putNumber(c);
        putNumber(d);
        putNumber(e);
        return tapeLength;
    }

    private void putNumber(int number) {
        for (int shift = 24; shift >= 0; shift -= 8) {
            if (tapeLength < TAPE_ROOM) {
                tape[tapeLength] = (number >>> shift) & 0xFF;
                tapeLength++;
            }
        }
    }

    public boolean end(int n) {
        if (n < 0 || n > tapeLength) {
            return false;
        }
        tapeLength = n;
        return true;
    }

    public int assemble() {
        int length = tapeLength;
        tapeLength = 0;
        if (assembler.open(length) && assembler.pass(false) && assembler.pass(true)) {
            assembler.keepLabels();
            return assembler.writeTo(bus);
        }
        return -1 - assembler.faultPlace();
    }

    public int fault() {
        return assembler.faultKind();
    }

    public int label(int line) {
        return assembler.labelOfLine(line);
    }

    public void reset() {
        bus.clearThings();
        core.restart();
    }

    public int event(int time, int in) {
        return core.expect(time, in);
    }

    public int run(int n, int at) throws IllegalArgumentException {
        if (n < 0 || n > MOST_STEPS) {
            throw new IllegalArgumentException("steps are 0 to 5000");
        }
        latestSteps = 0;
        for (int k = 1; k <= n; k++) {
            if (!core.step()) {
                return 2;
            }
            latestSteps = k;
            if (core.registerValue(Core.PC) == at) {
                return 1;
            }
        }
        return 0;
    }

    public int register(int r) throws IndexOutOfBoundsException {
        if (r < 0 || r >= REGISTERS) {
            throw new IndexOutOfBoundsException("no such register");
        }
        return core.registerValue(r);
    }

    public void set(int r, int value) throws IndexOutOfBoundsException {
        if (r < 0 || r >= REGISTERS) {
            throw new IndexOutOfBoundsException("no such register");
        }
        core.writeRegister(r, value);
    }

    public int peek(int address) throws IndexOutOfBoundsException {
        if (address < 0 || address >= MEMORY_BYTES) {
            throw new IndexOutOfBoundsException("no such address");
        }
        return bus.lookByte(address);
    }

    public boolean poke(int address, int value) throws IndexOutOfBoundsException {
        if (address < 0 || address >= MEMORY_BYTES) {
            throw new IndexOutOfBoundsException("no such address");
        }
        if (value < 0 || value > 255) {
            return false;
        }
        bus.writeByte(address, value);
        return true;
    }

    public int count(int what) {
        switch (what) {
            case 0:
                return core.time();
            case 1:
                return latestSteps;
            case 2:
                return core.interrupts();
            case 3:
                return core.naps();
            case 4:
                return core.waitingEvents();
            case 5:
                return tapeLength;
            case 6:
                return reader.length();
            case 7:
                return reader.behind();
            default:
                return NONE;
        }
    }

    public int list(int address) throws IndexOutOfBoundsException {
        if (address < 0 || address >= MEMORY_BYTES) {
            throw new IndexOutOfBoundsException("no such address");
        }
        int even = address & 0xFFFE;
        if (!reader.tellCode(even)) {
            reader.tellWord(even);
        }
        return reader.length();
    }

    public int octet(int k) throws NoSuchElementException {
        if (k < 0 || k >= reader.length()) {
            throw new NoSuchElementException("no such byte of OUT");
        }
        return reader.sign(k);
    }

    /** The port of eight bits, bytes 0x20 to 0x25. */
    private static final class Port {
        private static final int IN = 0x20;
        private static final int OUT = 0x21;
        private static final int FLAGS = 0x23;
        private static final int EDGES = 0x24;
        private static final int ENABLES = 0x25;

        private int in;
        private int out;
        private int flags;
        private int edges;
        private int enables;

        void clear() {
            in = 0;
            out = 0;
            flags = 0;
            edges = 0;
            enables = 0;
        }

        int value(int address) {
            switch (address) {
                case IN:
                    return in;
                case OUT:
                    return out;
                case FLAGS:
                    return flags;
                case EDGES:
                    return edges;
                case ENABLES:
                    return enables;
                default:
                    return 0;
            }
        }

        void write(int address, int value) {
            switch (address) {
                case OUT:
                    out = value & 0xFF;
                    break;
                case FLAGS:
                    flags = value & 0xFF;
                    break;
                case EDGES:
                    edges = value & 0xFF;
                    break;
                case ENABLES:
                    enables = value & 0xFF;
                    break;
                default:
                    break;
            }
        }

        void change(int now) {
            int risen = now & ~in;
            int fallen = in & ~now;
            flags |= (risen & ~edges) | (fallen & edges);
            in = now;
        }

        boolean requests() {
            return (flags & enables) != 0;
        }
    }

    /** The multiplier, words 0x130 to 0x13E. */
    private static final class Multiplier {
        static final int FROM = 0x130;
        static final int TO = 0x13E;
        private static final int UNSIGNED = 0x130;
        private static final int SIGNED = 0x132;
        private static final int ADDED = 0x134;
        private static final int SECOND = 0x138;
        private static final int LOW = 0x13A;
        private static final int HIGH = 0x13C;
        private static final int EXTENSION = 0x13E;

        private int kind = UNSIGNED;
        private int first;
        private int second;
        private int low;
        private int high;
        private int extension;

        void clear() {
            kind = UNSIGNED;
            first = 0;
            second = 0;
            low = 0;
            high = 0;
            extension = 0;
        }

        int word(int address) {
            switch (address) {
                case UNSIGNED:
                case SIGNED:
                case ADDED:
                    return first;
                case SECOND:
                    return second;
                case LOW:
                    return low;
                case HIGH:
                    return high;
                case EXTENSION:
                    return extension;
                default:
                    return 0;
            }
        }

        void writeWord(int address, int value) {
            switch (address) {
                case UNSIGNED:
                case SIGNED:
                case ADDED:
                    kind = address;
                    first = value;
                    break;
                case SECOND:
                    second = value;
                    multiply();
                    break;
                case LOW:
                    low = value;
                    break;
                case HIGH:
                    high = value;
                    break;
                default:
                    break;
            }
        }

        private void multiply() {
            long product;
            if (kind == SIGNED) {
                product = (long) (short) first * (short) second;
                extension = product < 0 ? 0xFFFF : 0;
            } else {
                product = (long) first * second;
                extension = 0;
            }
            if (kind == ADDED) {
                product += ((long) high << 16) | low;
                extension = (int) (product >>> 32) & 1;
            }
            low = (int) product & 0xFFFF;
            high = (int) (product >>> 16) & 0xFFFF;
        }
    }

    /** The timer, words 0x160 to 0x176, and its vector word 0x12E. */
    private static final class Timer {
        static final int IV = 0x12E;
        private static final int CTL = 0x160;
        private static final int CC0 = 0x162;
        private static final int CC2 = 0x166;
        private static final int TAR = 0x170;
        private static final int CCR0 = 0x172;
        private static final int CCR2 = 0x176;
        private static final int CTL_KEPT = 0xFFFB;
        private static final int CTL_ASKS = 3;
        private static final int CC_ASKS = 0x11;
        private static final int SLOW = 1;
        private static final int FAST = 2;

        private final int[] channels = new int[3];
        private final int[] compares = new int[3];
        private int control;
        private int counter;
        private int beats;
        private boolean down;

        void clear() {
            for (int k = 0; k < 3; k++) {
                channels[k] = 0;
                compares[k] = 0;
            }
            control = 0;
            startAnew();
        }

        private void startAnew() {
            counter = 0;
            beats = 0;
            down = false;
        }

        int word(int address) {
            if (address == CTL) {
                return control;
            }
            if (address >= CC0 && address <= CC2) {
                return channels[(address - CC0) >> 1];
            }
            if (address == TAR) {
                return counter;
            }
            if (address >= CCR0 && address <= CCR2) {
                return compares[(address - CCR0) >> 1];
            }
            return 0;
        }

        void writeWord(int address, int value) {
            if (address == CTL) {
                control = value & CTL_KEPT;
                if ((value & 4) != 0) {
                    startAnew();
                }
            } else if (address >= CC0 && address <= CC2) {
                channels[(address - CC0) >> 1] = value & CC_ASKS;
            } else if (address == TAR) {
                counter = value;
            } else if (address >= CCR0 && address <= CCR2) {
                compares[(address - CCR0) >> 1] = value;
            }
        }

        int vector() {
            if (channels[1] == CC_ASKS) {
                return 2;
            }
            if (channels[2] == CC_ASKS) {
                return 4;
            }
            return (control & CTL_ASKS) == CTL_ASKS ? 10 : 0;
        }

        int takeVector() {
            int taken = vector();
            if (taken == 2) {
                channels[1] &= ~1;
            } else if (taken == 4) {
                channels[2] &= ~1;
            } else if (taken == 10) {
                control &= ~1;
            }
            return taken;
        }

        boolean firstRequests() {
            return channels[0] == CC_ASKS;
        }

        void takeFirst() {
            channels[0] &= ~1;
        }

        void slowBeat() {
            if (((control >> 8) & 3) == SLOW) {
                beat();
            }
        }

        void fastBeat() {
            if (((control >> 8) & 3) == FAST) {
                beat();
            }
        }

        private void beat() {
            beats++;
            if (beats >= 1 << ((control >> 6) & 3)) {
                beats = 0;
                advance();
            }
        }

        private void advance() {
            int mode = (control >> 4) & 3;
            if (mode == 0 || (mode != 2 && compares[0] == 0)) {
                return;
            }
            if (mode == 1) {
                counter = counter >= compares[0] ? 0 : counter + 1;
            } else if (mode == 2) {
                counter = (counter + 1) & 0xFFFF;
            } else {
                swing();
            }
            raiseFlags();
        }

        private void swing() {
            if (counter >= compares[0]) {
                down = true;
            } else if (counter == 0) {
                down = false;
            }
            counter += down ? -1 : 1;
        }

        private void raiseFlags() {
            for (int k = 0; k < 3; k++) {
                if (counter == compares[k]) {
                    channels[k] |= 1;
                }
            }
            if (counter == 0) {
                control |= 1;
            }
        }
    }

    /** Memory, and the things below 0x200 that are read and written like it. */
    private static final class Bus {
        private static final int THINGS_END = 0x200;
        private static final int WORDS_FROM = 0x120;

        private final int[] words = new int[MEMORY_BYTES / 2];
        private final Port port = new Port();
        private final Multiplier multiplier = new Multiplier();
        private final Timer timer = new Timer();

        Port port() {
            return port;
        }

        Timer timer() {
            return timer;
        }

        void clearThings() {
            port.clear();
            multiplier.clear();
            timer.clear();
        }

        /** A word as it is: nothing is cleared by looking. */
        int lookWord(int address) {
            int a = address & 0xFFFE;
            return a < THINGS_END ? thingWord(a) : words[a >> 1];
        }

        int lookByte(int address) {
            int a = address & 0xFFFE;
            int word = a < THINGS_END ? thingWord(a) : words[a >> 1];
            return (address & 1) == 0 ? word & 0xFF : word >> 8;
        }

        int readWord(int address) {
            int a = address & 0xFFFE;
            if (a == Timer.IV) {
                return timer.takeVector();
            }
            return a < THINGS_END ? thingWord(a) : words[a >> 1];
        }

        int readByte(int address) {
            int a = address & 0xFFFE;
            int word;
            if (a == Timer.IV) {
                word = timer.takeVector();
            } else {
                word = a < THINGS_END ? thingWord(a) : words[a >> 1];
            }
            return (address & 1) == 0 ? word & 0xFF : word >> 8;
        }

        void writeWord(int address, int value) {
            int a = address & 0xFFFE;
            if (a >= THINGS_END) {
                words[a >> 1] = value & 0xFFFF;
            } else if (a >= WORDS_FROM) {
                writeThing(a, value & 0xFFFF);
            } else {
                port.write(a, value & 0xFF);
                port.write(a + 1, (value >> 8) & 0xFF);
            }
        }

        void writeByte(int address, int value) {
            int a = address & 0xFFFF;
            if (a < WORDS_FROM) {
                port.write(a, value & 0xFF);
                return;
            }
            int even = a & 0xFFFE;
            int old = even < THINGS_END ? thingWord(even) : words[even >> 1];
            int now = (a & 1) == 0 ? (old & 0xFF00) | (value & 0xFF) : (old & 0xFF) | ((value & 0xFF) << 8);
            if (even >= THINGS_END) {
                words[even >> 1] = now;
            } else {
                writeThing(even, now);
            }
        }

        private int thingWord(int a) {
            if (a < WORDS_FROM) {
                return port.value(a) | (port.value(a + 1) << 8);
            }
            if (a == Timer.IV) {
                return timer.vector();
            }
            if (a >= Multiplier.FROM && a <= Multiplier.TO) {
                return multiplier.word(a);
            }
            return timer.word(a);
        }

        private void writeThing(int a, int value) {
            if (a == Timer.IV) {
                timer.takeVector();
            } else if (a >= Multiplier.FROM && a <= Multiplier.TO) {
                multiplier.writeWord(a, value);
            } else {
                timer.writeWord(a, value);
            }
        }
    }

    /** What IN will be, and when; in the order of their times. */
    private static final class Events {
        private static final int ROOM = 40;

        private final int[] times = new int[ROOM];
        private final int[] ins = new int[ROOM];
        private int waiting;

        void clear() {
            waiting = 0;
        }

        int waiting() {
            return waiting;
        }

        boolean takes(int time) {
            return waiting < ROOM && (waiting == 0 || time >= times[waiting - 1]);
        }

        void add(int time, int in) {
            if (waiting < ROOM) {
                times[waiting] = time;
                ins[waiting] = in;
                waiting++;
            }
        }

        /** Lets those that are due change the port's IN. */
        void reach(int time, Port port) {
            int due = 0;
            while (due < waiting && times[due] <= time) {
                port.change(ins[due]);
                due++;
            }
            if (due == 0) {
                return;
            }
            for (int k = due; k < waiting; k++) {
                times[k - due] = times[k];
                ins[k - due] = ins[k];
            }
            waiting -= due;
        }
    }

    /** The registers, the codes and what they do, TIME and the interrupts. */
    private static final class Core {
        static final int PC = 0;
        static final int SP = 1;
        static final int SR = 2;
        static final int ZERO = 3;
        private static final int C = 1;
        private static final int Z = 2;
        private static final int N = 4;
        private static final int GIE = 8;
        private static final int CPUOFF = 0x10;
        private static final int OSCOFF = 0x20;
        private static final int SCG1 = 0x80;
        private static final int V = 0x100;
        private static final int SR_KEPT = 0x1FF;
        private static final int MOV = 4;
        private static final int CMP = 9;
        private static final int BIT = 11;
        private static final int PUSH = 4;
        private static final int CALL = 5;
        private static final int RETI = 6;
        /** Places of operands: memory's addresses, then the registers, or nowhere. */
        private static final int REGISTER_PLACE = 0x10000;
        private static final int NOWHERE = -1;

        private final int[] registers = new int[REGISTERS];
        private final Events events = new Events();
        private final Bus bus;
        private int time;
        private int interrupts;
        private int naps;
        private int place;
        private boolean bytes;

        Core(Bus bus) {
            this.bus = bus;
        }

        static boolean isCode(int word) {
            if (word >= 0x2000) {
                return true;
            }
            if (word >> 10 != 4) {
                return false;
            }
            int which = (word >> 7) & 7;
            boolean withB = (word & 0x40) != 0;
            return which != 7 && (!withB || which == 0 || which == 2 || which == PUSH);
        }

        /** Whether a source of these makes a constant. */
        static boolean isConstant(int as, int s) {
            return (s == ZERO && as > 0) || (s == SR && as > 1);
        }

        static int constant(int as, int s) {
            if (s == SR) {
                return as == 2 ? 4 : 8;
            }
            return as == 3 ? 0xFFFF : as;
        }

        void restart() {
            for (int r = 0; r < REGISTERS; r++) {
                registers[r] = 0;
            }
            events.clear();
            time = 0;
            interrupts = 0;
            naps = 0;
            writeRegister(PC, bus.lookWord(0xFFFE));
        }

        int time() {
            return time;
        }

        int interrupts() {
            return interrupts;
        }

        int naps() {
            return naps;
        }

        int waitingEvents() {
            return events.waiting();
        }

        int expect(int at, int in) {
            if (at < time || in < 0 || in > 255 || !events.takes(at)) {
                return NONE;
            }
            events.add(at, in);
            return events.waiting();
        }

        int registerValue(int r) {
            return registers[r & 15];
        }

        void writeRegister(int r, int value) {
            if (r == PC || r == SP) {
                registers[r] = value & 0xFFFE;
            } else if (r == SR) {
                registers[SR] = value & SR_KEPT;
            } else if (r != ZERO) {
                registers[r & 15] = value & 0xFFFF;
            }
        }

        /** One STEP; false, and none was done, at HALT. */
        boolean step() {
            events.reach(time, bus.port());
            int vector = (registers[SR] & GIE) != 0 ? request() : 0;
            int cycles;
            if (vector != 0) {
                cycles = interrupt(vector);
            } else if ((registers[SR] & CPUOFF) != 0) {
                naps++;
                cycles = 1;
            } else {
                // What could be cleared by reading is never a CODE, so looking is enough.
                int code = bus.lookWord(registers[PC]);
                if (!isCode(code)) {
                    return false;
                }
                writeRegister(PC, registers[PC] + 2);
                cycles = code >= 0x4000 ? two(code) : code >= 0x2000 ? jump(code) : one(code);
            }
            passTime(cycles);
            return true;
        }

        private int request() {
            if (bus.timer().firstRequests()) {
                return 0xFFF2;
            }
            if (bus.timer().vector() != 0) {
                return 0xFFF0;
            }
            return bus.port().requests() ? 0xFFE4 : 0;
        }

        private int interrupt(int vector) {
            if (vector == 0xFFF2) {
                bus.timer().takeFirst();
            }
            pushWord(registers[PC]);
            pushWord(registers[SR]);
            registers[SR] = 0;
            writeRegister(PC, bus.readWord(vector));
            interrupts++;
            return 6;
        }

        private void passTime(int cycles) {
            boolean slow = (registers[SR] & OSCOFF) == 0;
            boolean fast = (registers[SR] & SCG1) == 0;
            for (int k = 0; k < cycles; k++) {
                time++;
                if (fast) {
                    bus.timer().fastBeat();
                }
                if (slow && (time & 15) == 0) {
                    bus.timer().slowBeat();
                }
            }
        }

        private void pushWord(int value) {
            writeRegister(SP, registers[SP] - 2);
            bus.writeWord(registers[SP], value);
        }

        private int popWord() {
            int value = bus.readWord(registers[SP]);
            writeRegister(SP, registers[SP] + 2);
            return value;
        }

        private int jump(int code) {
            int sr = registers[SR];
            boolean less = ((sr & N) != 0) != ((sr & V) != 0);
            boolean taken;
            switch ((code >> 10) & 7) {
                case 0:
                    taken = (sr & Z) == 0;
                    break;
                case 1:
                    taken = (sr & Z) != 0;
                    break;
                case 2:
                    taken = (sr & C) == 0;
                    break;
                case 3:
                    taken = (sr & C) != 0;
                    break;
                case 4:
                    taken = (sr & N) != 0;
                    break;
                case 5:
                    taken = !less;
                    break;
                case 6:
                    taken = less;
                    break;
                default:
                    taken = true;
                    break;
            }
            if (taken) {
                int offset = (code & 0x200) != 0 ? (code & 0x3FF) - 0x400 : code & 0x3FF;
                writeRegister(PC, registers[PC] + 2 * offset);
            }
            return 2;
        }

        private int two(int code) {
            int which = code >> 12;
            int s = (code >> 8) & 15;
            int as = (code >> 4) & 3;
            int d = code & 15;
            boolean inMemory = (code & 0x80) != 0;
            bytes = (code & 0x40) != 0;
            int source = operand(as, s);
            place = inMemory ? indexed(d) : REGISTER_PLACE + d;
            int destination = which == MOV ? 0 : load();
            int result = compute(which, source, destination);
            if (which != CMP && which != BIT) {
                store(result);
            }
            int cycles = as == 0 || isConstant(as, s) ? 1 : as == 1 ? 3 : 2;
            if (inMemory) {
                return cycles + 3;
            }
            return d == PC && (cycles == 1 || as == 3) ? cycles + 1 : cycles;
        }

        private int one(int code) {
            int which = (code >> 7) & 7;
            int s = code & 15;
            int as = (code >> 4) & 3;
            if (which == RETI) {
                writeRegister(SR, popWord());
                writeRegister(PC, popWord());
                return 5;
            }
            bytes = (code & 0x40) != 0;
            int value = operand(as, s);
            int reach = as == 0 || isConstant(as, s) ? 0 : as == 1 ? 2 : 1;
            if (which == PUSH) {
                writeRegister(SP, registers[SP] - 2);
                place = registers[SP];
                store(value);
                return 3 + reach;
            }
            if (which == CALL) {
                pushWord(registers[PC]);
                writeRegister(PC, value);
                return reach == 2 || (reach == 1 && as == 3) ? 5 : 4;
            }
            store(turn(which, value));
            return reach == 0 ? 1 : 2 + reach;
        }

        /** RRC, SWPB, RRA, SXT. */
        private int turn(int which, int value) {
            if (which == 1) {
                return ((value & 0xFF) << 8) | (value >> 8);
            }
            if (which == 3) {
                int wide = (byte) value & 0xFFFF;
                putFlags(wide, wide != 0, false);
                return wide;
            }
            int sign = bytes ? 0x80 : 0x8000;
            int above = which == 0 ? (registers[SR] & C) * sign : value & sign;
            int result = (value >> 1) | above;
            putFlags(result, (value & 1) != 0, false);
            return result;
        }

        /** The source's value; its place is kept, where it has one. */
        private int operand(int as, int s) {
            if (isConstant(as, s)) {
                place = NOWHERE;
                return bytes ? constant(as, s) & 0xFF : constant(as, s);
            }
            if (as == 0) {
                place = REGISTER_PLACE + s;
            } else if (as == 1) {
                place = indexed(s);
            } else {
                place = registers[s];
            }
            int value = load();
            if (as == 3) {
                writeRegister(s, registers[s] + (bytes && s != PC && s != SP ? 1 : 2));
            }
            return value;
        }

        /** The address that a register and the next word tell. */
        private int indexed(int r) {
            int at = registers[PC];
            int x = bus.readWord(at);
            writeRegister(PC, at + 2);
            if (r == PC) {
                return (at + x) & 0xFFFF;
            }
            return r == SR || r == ZERO ? x : (registers[r] + x) & 0xFFFF;
        }

        private int load() {
            if (place >= REGISTER_PLACE) {
                int value = registers[place & 15];
                return bytes ? value & 0xFF : value;
            }
            return bytes ? bus.readByte(place) : bus.readWord(place);
        }

        private void store(int value) {
            if (place == NOWHERE) {
                return;
            }
            if (place >= REGISTER_PLACE) {
                writeRegister(place & 15, bytes ? value & 0xFF : value);
            } else if (bytes) {
                bus.writeByte(place, value);
            } else {
                bus.writeWord(place, value);
            }
        }

        private int compute(int which, int source, int destination) {
            int mask = bytes ? 0xFF : 0xFFFF;
            int carry = registers[SR] & C;
            switch (which) {
                case MOV:
                    return source;
                case 5:
                    return sum(source, destination, 0);
                case 6:
                    return sum(source, destination, carry);
                case 7:
                    return sum(~source & mask, destination, carry);
                case 8:
                case CMP:
                    return sum(~source & mask, destination, 1);
                case 10:
                    return decimalSum(source, destination);
                case 12:
                    return destination & ~source;
                case 13:
                    return destination | source;
                case 14:
                    return exclusive(source, destination);
                default:
                    return common(source, destination);
            }
        }

        /** BIT and AND. */
        private int common(int a, int b) {
            int result = a & b;
            putFlags(result, result != 0, false);
            return result;
        }

        private int sum(int a, int b, int carry) {
            int mask = bytes ? 0xFF : 0xFFFF;
            int sign = bytes ? 0x80 : 0x8000;
            int whole = a + b + carry;
            int result = whole & mask;
            putFlags(result, whole > mask, ((a ^ result) & (b ^ result) & sign) != 0);
            return result;
        }

        private int decimalSum(int a, int b) {
            int carry = registers[SR] & C;
            int width = bytes ? 8 : 16;
            int result = 0;
            for (int shift = 0; shift < width; shift += 4) {
                int digit = ((a >> shift) & 15) + ((b >> shift) & 15) + carry;
                carry = digit > 9 ? 1 : 0;
                result |= ((digit - 10 * carry) & 15) << shift;
            }
            putFlags(result, carry != 0, (registers[SR] & V) != 0);
            return result;
        }

        private int exclusive(int a, int b) {
            int sign = bytes ? 0x80 : 0x8000;
            int result = a ^ b;
            putFlags(result, result != 0, (a & b & sign) != 0);
            return result;
        }

        private void putFlags(int result, boolean carry, boolean overflow) {
            int sign = bytes ? 0x80 : 0x8000;
            int flags = (carry ? C : 0) | (overflow ? V : 0);
            flags |= (result & sign) != 0 ? N : 0;
            flags |= result == 0 ? Z : 0;
            registers[SR] = (registers[SR] & ~(C | Z | N | V)) | flags;
        }
    }

    /** A text's tokens, all found ahead of the parsing, and a cursor on them. */
    private static final class Tokens {
        /** Kinds of tokens; a mark's kind is its own sign. */
        static final int END = 0;
        static final int BAD = 1;
        static final int WORD = 2;
        static final int NAME = 3;
        static final int REGISTER = 4;
        static final int NUMBER = 5;
        static final int BYTES = 6;
        static final int NAME_WIDTH = 4;
        /** Names by four signs each, in the order of their numbers. */
        private static final String NAMES = "mov add addcsubcsub cmp daddbit bic bis xor and rrc swpbrra sxt pushcallretijne jeq jnc jc  jn  jge jl  jmp org wordbyteret nop br  pop clr ";
        private static final int NAME_COUNT = 35;
        private static final String MARKS = ":,()&@#+-";
        private static final int ROOM = 2501;
        private static final int WORD_MOST = 8;

        private final int[] kinds = new int[ROOM];
        private final int[] places = new int[ROOM];
        private final int[] values = new int[ROOM];
        private final long[] keys = new long[ROOM];
        private final long[] nameKeys = new long[NAME_COUNT];
        private final int[] text;
        private int length;
        private int total;
        private int at;
        private int foundKind;
        private int foundValue;
        private long foundKey;

        Tokens(int[] text) {
            this.text = text;
            for (int name = 0; name < NAME_COUNT; name++) {
                nameKeys[name] = nameKey(name);
            }
        }

        static int nameSign(int name, int k) {
            int index = name * NAME_WIDTH + k;
            return k < NAME_WIDTH && index >= 0 && index < NAMES.length() ? NAMES.charAt(index) : ' ';
        }

        void rewind() {
            at = 0;
        }

        int kind() {
            return at < ROOM ? kinds[at] : BAD;
        }

        int value() {
            return at < ROOM ? values[at] : 0;
        }

        long key() {
            return at < ROOM ? keys[at] : 0;
        }

        int place() {
            return at < ROOM ? places[at] : 0;
        }

        /** Whether it is a register that can stand in brackets and behind @. */
        boolean isBase() {
            boolean isRegister = at < ROOM && kinds[at] == REGISTER;
            return isRegister && values[at] != Core.PC && values[at] != Core.SR && values[at] != Core.ZERO;
        }

        boolean isLast() {
            return at >= total - 1;
        }

        void skip() {
            if (at < total - 1) {
                at++;
            }
        }

        /** Finds all tokens of the text's first bytes, up to the first place where none is. */
        void scan(int bytes) {
            length = bytes <= text.length ? bytes : text.length;
            at = 0;
            int behind = 0;
            boolean more = true;
            total = 0;
            for (int k = 0; more && k < ROOM; k++) {
                int start = passBlanks(behind);
                behind = scanOne(start, start == behind);
                kinds[k] = foundKind;
                places[k] = start;
                values[k] = foundValue;
                keys[k] = foundKey;
                more = foundKind != BAD && start < length;
                total = k + 1;
            }
        }

        private int sign(int k) {
            return k >= 0 && k < length ? text[k] : NONE;
        }

        private int passBlanks(int from) {
            int k = from;
            while (k < length && sign(k) == ' ') {
                k++;
            }
            if (sign(k) == ';') {
                while (k < length && sign(k) != '\n') {
                    k++;
                }
            }
            return k;
        }

        /** Finds the token that starts there; the place behind it. */
        private int scanOne(int start, boolean rightBehind) {
            int sign = sign(start);
            foundValue = 0;
            foundKey = 0;
            if (sign == NONE || sign == '\n') {
                foundKind = END;
            } else if (sign >= 'a' && sign <= 'z') {
                return scanWord(start);
            } else if (sign >= '0' && sign <= '9') {
                return scanNumber(start);
            } else if (sign == '.' && rightBehind && sign(start + 1) == 'b') {
                foundKind = BYTES;
                return start + 2;
            } else {
                foundKind = MARKS.indexOf((char) sign) >= 0 ? sign : BAD;
            }
            return start + 1;
        }

        private int scanWord(int start) {
            int stop = start;
            while (stop < length && isWordSign(sign(stop))) {
                foundKey = (foundKey << 8) | sign(stop);
                stop++;
            }
            if (stop - start > WORD_MOST) {
                foundKind = BAD;
                return stop;
            }
            int register = registerOf(start, stop - start);
            int name = nameOf(foundKey);
            if (register != NONE) {
                foundKind = REGISTER;
                foundValue = register;
            } else if (name != NONE) {
                foundKind = NAME;
                foundValue = name;
            } else {
                foundKind = WORD;
            }
            return stop;
        }

        private static boolean isWordSign(int sign) {
            return (sign >= 'a' && sign <= 'z') || (sign >= 'A' && sign <= 'Z') || (sign >= '0' && sign <= '9');
        }

        private int registerOf(int start, int size) {
            int first = sign(start);
            int second = sign(start + 1);
            if (size == 2) {
                if (first == 'r' && second >= '0' && second <= '9') {
                    return second - '0';
                }
                if (first == 'p' && second == 'c') {
                    return Core.PC;
                }
                if (first == 's' && second == 'p') {
                    return Core.SP;
                }
                return first == 's' && second == 'r' ? Core.SR : NONE;
            }
            int third = sign(start + 2);
            boolean twoDigits = size == 3 && first == 'r' && second == '1' && third >= '0' && third <= '5';
            return twoDigits ? 10 + third - '0' : NONE;
        }

        private static long nameKey(int name) {
            long key = 0;
            for (int k = 0; k < NAME_WIDTH && nameSign(name, k) != ' '; k++) {
                key = (key << 8) | nameSign(name, k);
            }
            return key;
        }

        private int nameOf(long key) {
            for (int name = 0; name < NAME_COUNT; name++) {
                if (nameKeys[name] == key) {
                    return name;
                }
            }
            return NONE;
        }

        private int scanNumber(int start) {
            boolean hex = sign(start) == '0' && sign(start + 1) == 'x';
            int base = hex ? 16 : 10;
            int most = hex ? 4 : 5;
            int first = hex ? start + 2 : start;
            int stop = first;
            while (stop < length && digit(sign(stop), base) != NONE) {
                if (stop - first < most) {
                    foundValue = foundValue * base + digit(sign(stop), base);
                }
                stop++;
            }
            foundKind = stop == first || stop - first > most ? BAD : NUMBER;
            return stop;
        }

        private static int digit(int sign, int base) {
            if (sign >= '0' && sign <= '9') {
                return sign - '0';
            }
            return base == 16 && sign >= 'a' && sign <= 'f' ? sign - 'a' + 10 : NONE;
        }
    }

    /** The labels of one text: what they are, and the lines that tell them. */
    private static final class Labels {
        private static final int ROOM = 60;

        private final long[] keys = new long[ROOM];
        private final int[] values = new int[ROOM];
        private final int[] lines = new int[ROOM];
        private int total;

        void clear() {
            total = 0;
        }

        boolean takes(long key) {
            return total < ROOM && valueOf(key) == NONE;
        }

        void add(long key, int value, int line) {
            if (total < ROOM) {
                keys[total] = key;
                values[total] = value;
                lines[total] = line;
                total++;
            }
        }

        int valueOf(long key) {
            for (int k = 0; k < total && k < ROOM; k++) {
                if (keys[k] == key) {
                    return values[k];
                }
            }
            return NONE;
        }

        int valueOfLine(int line) {
            for (int k = 0; k < total && k < ROOM; k++) {
                if (lines[k] == line) {
                    return values[k];
                }
            }
            return NONE;
        }
    }

    /** An operand of an instruction that is being made. */
    private static final class Operand {
        private int mode;
        private int base;
        private int next;
        private boolean hasNext;
        private boolean relative;

        int mode() {
            return mode;
        }

        int base() {
            return base;
        }

        boolean hasNext() {
            return hasNext;
        }

        /** The word behind the code, if it stands at that place. */
        int next(int place) {
            return relative ? next - place : next;
        }

        void take(int newMode, int newBase) {
            mode = newMode;
            base = newBase;
            next = 0;
            hasNext = false;
            relative = false;
        }

        void takeWithNext(int newMode, int newBase, int newNext) {
            mode = newMode;
            base = newBase;
            next = newNext;
            hasNext = true;
            relative = false;
        }

        void takeSymbolic(int address) {
            takeWithNext(1, Core.PC, address);
            relative = true;
        }

        /** A number behind #; some are made without a word behind the code. */
        void takeNumber(int number) {
            switch (number & 0xFFFF) {
                case 0:
                case 1:
                case 2:
                    take(number & 3, Core.ZERO);
                    break;
                case 0xFFFF:
                    take(3, Core.ZERO);
                    break;
                case 4:
                    take(2, Core.SR);
                    break;
                case 8:
                    take(3, Core.SR);
                    break;
                default:
                    takeWithNext(3, Core.PC, number);
                    break;
            }
        }
    }

    /** Makes bytes of a text in two passes: where labels are, then what they make. */
    private static final class Assembler {
        private static final int TEXT_ROOM = 2500;
        private static final int MADE_ROOM = 2600;
        private static final int FIRST_PLACE = 0xC000;
        private static final int RRC = 12;
        private static final int RRA = 14;
        private static final int PUSH = 16;
        private static final int RETI = 18;
        private static final int JNE = 19;
        private static final int ORG = 27;
        private static final int WORD = 28;
        private static final int BYTE = 29;
        private static final int RET = 30;
        private static final int NOP = 31;
        private static final int BR = 32;
        private static final int POP = 33;
        private static final int MOV_CODE = 4;

        private final Tokens tokens;
        private final Operand source = new Operand();
        private final Operand target = new Operand();
        private final int[] made = new int[MADE_ROOM];
        private final int[] madePlaces = new int[MADE_ROOM];
        private Labels labels = new Labels();
        private Labels goodLabels = new Labels();
        private int madeLength;
        private boolean making;
        private int line;
        private int place;
        private int begin;
        private int value;
        private int valuePlace;
        private boolean bare;
        private int faultKind;
        private int faultPlace;

        Assembler(int[] text) {
            tokens = new Tokens(text);
        }

        int faultKind() {
            return faultKind;
        }

        int faultPlace() {
            return faultPlace;
        }

        int labelOfLine(int number) {
            return goodLabels.valueOfLine(number);
        }

        boolean open(int length) {
            faultKind = 0;
            faultPlace = 0;
            if (length > TEXT_ROOM) {
                return fail(6, TEXT_ROOM);
            }
            tokens.scan(length);
            labels.clear();
            return true;
        }

        /** Only the second pass makes bytes, and finds faults 4 and 5, which come behind all others. */
        boolean pass(boolean second) {
            making = second;
            place = FIRST_PLACE;
            madeLength = 0;
            tokens.rewind();
            for (int k = 0; k <= TEXT_ROOM; k++) {
                line = k;
                if (!readLine()) {
                    return false;
                }
                if (tokens.isLast()) {
                    return true;
                }
                tokens.skip();
            }
            return true;
        }

        void keepLabels() {
            Labels old = goodLabels;
            goodLabels = labels;
            labels = old;
        }

        int writeTo(Bus bus) {
            for (int k = 0; k < madeLength && k < MADE_ROOM; k++) {
                bus.writeByte(madePlaces[k], made[k]);
            }
            return madeLength;
        }

        private boolean fail(int kind, int where) {
            faultKind = kind;
            faultPlace = where;
            return false;
        }

        private boolean readLine() {
            boolean labelled = tokens.kind() == Tokens.WORD;
            long key = tokens.key();
            if (labelled) {
                if (!making && !labels.takes(key)) {
                    return fail(3, tokens.place());
                }
                tokens.skip();
                if (tokens.kind() != ':') {
                    return fail(1, tokens.place());
                }
                tokens.skip();
            }
            begin = place;
            if (tokens.kind() != Tokens.END && !statement()) {
                return false;
            }
            if (tokens.kind() != Tokens.END) {
                return fail(1, tokens.place());
            }
            if (place > MEMORY_BYTES) {
                return fail(2, tokens.place());
            }
            if (labelled && !making) {
                labels.add(key, begin & 0xFFFF, line);
            }
            return true;
        }

        private boolean statement() {
            if (tokens.kind() != Tokens.NAME) {
                return fail(1, tokens.place());
            }
            int name = tokens.value();
            tokens.skip();
            if (name == ORG) {
                return origin();
            }
            if (name == BYTE) {
                return byteRow();
            }
            place += place & 1;
            begin = place;
            if (name == WORD) {
                return wordRow();
            }
            if (name < RRC) {
                return two(name);
            }
            if (name < RETI) {
                return one(name);
            }
            return name >= JNE && name < ORG ? jump(name - JNE) : other(name);
        }

        private boolean origin() {
            if (tokens.kind() == Tokens.WORD) {
                return fail(1, tokens.place());
            }
            if (!expression()) {
                return false;
            }
            place = value & 0xFFFF;
            begin = place;
            return true;
        }

        private boolean byteRow() {
            for (int k = 0; k <= TEXT_ROOM; k++) {
                if (!expression()) {
                    return false;
                }
                if (bare && (value < -128 || value > 255)) {
                    return fail(2, valuePlace);
                }
                putByte(value);
                if (tokens.kind() != ',') {
                    return true;
                }
                tokens.skip();
            }
            return true;
        }

        private boolean wordRow() {
            for (int k = 0; k <= TEXT_ROOM; k++) {
                if (!expression()) {
                    return false;
                }
                putWord(value);
                if (tokens.kind() != ',') {
                    return true;
                }
                tokens.skip();
            }
            return true;
        }

        private boolean two(int name) {
            int withB = byteBit(name);
            if (!operand(source, true, true)) {
                return false;
            }
            if (tokens.kind() != ',') {
                return fail(1, tokens.place());
            }
            tokens.skip();
            return operand(target, false, true) && putTwo(name + MOV_CODE, withB);
        }

        private boolean one(int name) {
            int withB = byteBit(name);
            if (!operand(source, true, name < PUSH)) {
                return false;
            }
            putWord(0x1000 | (name - RRC) << 7 | withB | source.mode() << 4 | source.base());
            putNext(source);
            return true;
        }

        private boolean jump(int which) {
            if (!expression()) {
                return false;
            }
            int way = (short) (value - place - 2);
            if (making && ((way & 1) != 0 || way < -1024 || way > 1022)) {
                return fail(5, valuePlace);
            }
            putWord(0x2000 | which << 10 | ((way >> 1) & 0x3FF));
            return true;
        }

        /** Those that are other instructions by shorter names. */
        private boolean other(int name) {
            if (name == RETI) {
                putWord(0x1300);
                return true;
            }
            if (name == BR) {
                target.take(0, Core.PC);
                return operand(source, true, true) && putTwo(MOV_CODE, 0);
            }
            if (name == RET || name == POP) {
                source.take(3, Core.SP);
            } else {
                source.take(0, Core.ZERO);
            }
            if (name == RET || name == NOP) {
                target.take(0, name == RET ? Core.PC : Core.ZERO);
                return putTwo(MOV_CODE, 0);
            }
            return operand(target, false, true) && putTwo(MOV_CODE, 0);
        }

        private int byteBit(int name) {
            boolean can = name <= RRC || name == RRA || name == PUSH;
            if (!can || tokens.kind() != Tokens.BYTES) {
                return 0;
            }
            tokens.skip();
            return 0x40;
        }

        private boolean operand(Operand operand, boolean isSource, boolean constants) {
            int kind = tokens.kind();
            if (kind == Tokens.REGISTER) {
                operand.take(0, tokens.value());
                tokens.skip();
                return true;
            }
            if (kind == '@' && isSource) {
                return through(operand);
            }
            boolean number = kind == '#' && isSource;
            if (number || kind == '&') {
                tokens.skip();
            }
            if (!expression()) {
                return false;
            }
            if (number && bare && constants) {
                operand.takeNumber(value);
            } else if (number) {
                operand.takeWithNext(3, Core.PC, value);
            } else if (kind == '&') {
                operand.takeWithNext(1, Core.SR, value);
            } else if (tokens.kind() == '(') {
                return indexed(operand);
            } else {
                operand.takeSymbolic(value);
            }
            return true;
        }

        private boolean through(Operand operand) {
            tokens.skip();
            if (!tokens.isBase()) {
                return fail(1, tokens.place());
            }
            int register = tokens.value();
            tokens.skip();
            boolean goesOn = tokens.kind() == '+';
            if (goesOn) {
                tokens.skip();
            }
            operand.take(goesOn ? 3 : 2, register);
            return true;
        }

        private boolean indexed(Operand operand) {
            tokens.skip();
            if (!tokens.isBase()) {
                return fail(1, tokens.place());
            }
            operand.takeWithNext(1, tokens.value(), value);
            tokens.skip();
            if (tokens.kind() != ')') {
                return fail(1, tokens.place());
            }
            tokens.skip();
            return true;
        }

        /** EXPR: its value, whether it is bare of labels, and where it begins. */
        private boolean expression() {
            valuePlace = tokens.place();
            value = 0;
            bare = tokens.kind() != Tokens.WORD;
            if (!bare) {
                int told = labels.valueOf(tokens.key());
                if (making && told == NONE) {
                    return fail(4, valuePlace);
                }
                value = told;
                tokens.skip();
            }
            int mark = tokens.kind();
            boolean signed = mark == '-' || (mark == '+' && !bare);
            if (!bare && !signed) {
                return true;
            }
            if (signed) {
                tokens.skip();
            }
            if (tokens.kind() != Tokens.NUMBER) {
                return fail(1, tokens.place());
            }
            int number = mark == '-' ? -tokens.value() : tokens.value();
            if (tokens.value() > 65535 || (bare && number < -32768)) {
                return fail(2, valuePlace);
            }
            value += number;
            tokens.skip();
            return true;
        }

        private boolean putTwo(int which, int withB) {
            putWord(which << 12 | source.base() << 8 | target.mode() << 7 | withB
                | source.mode() << 4 | target.base());
            putNext(source);
            putNext(target);
            return true;
        }

        private void putNext(Operand operand) {
            if (operand.hasNext()) {
                putWord(operand.next(place));
            }
        }

        private void putWord(int word) {
            if (making && madeLength + 2 <= MADE_ROOM) {
                made[madeLength] = word & 0xFF;
                madePlaces[madeLength] = place;
                made[madeLength + 1] = (word >> 8) & 0xFF;
                madePlaces[madeLength + 1] = place + 1;
                madeLength += 2;
            }
            place += 2;
        }

        private void putByte(int number) {
            if (making && madeLength < MADE_ROOM) {
                made[madeLength] = number & 0xFF;
                madePlaces[madeLength] = place;
                madeLength++;
            }
            place++;
        }
    }

    /** Tells codes as texts that the assembler makes into them again. */
    private static final class Reader {
        private static final int ROOM = 64;
        private static final int NAME_WORD = 28;
        private static final int NAME_JNE = 19;
        private static final int NAME_RRC = 12;
        private static final int PUSH = 4;
        private static final int RETI = 6;

        private final int[] out = new int[ROOM];
        private final Bus bus;
        private int length;
        private int behind;
        private int next;

        Reader(Bus bus) {
            this.bus = bus;
        }

        int length() {
            return length;
        }

        int behind() {
            return behind;
        }

        int sign(int k) {
            return k >= 0 && k < ROOM ? out[k] : 0;
        }

        /** False, if the assembler would not make of the telling what stands there. */
        boolean tellCode(int address) {
            int code = bus.lookWord(address);
            length = 0;
            next = address + 2;
            boolean told;
            if (!Core.isCode(code)) {
                told = false;
            } else if (code >= 0x4000) {
                told = tellTwo(code);
            } else if (code < 0x2000) {
                told = tellOne(code);
            } else {
                putName(NAME_JNE + ((code >> 10) & 7), 0);
                int offset = (code & 0x200) != 0 ? (code & 0x3FF) - 0x400 : code & 0x3FF;
                putNumber((next + 2 * offset) & 0xFFFF);
                told = true;
            }
            behind = next & 0xFFFF;
            return told;
        }

        void tellWord(int address) {
            length = 0;
            putName(NAME_WORD, 0);
            putNumber(bus.lookWord(address));
            behind = (address + 2) & 0xFFFF;
        }

        private boolean tellTwo(int code) {
            putName((code >> 12) - 4, code & 0x40);
            if (!tellSource((code >> 4) & 3, (code >> 8) & 15, true)) {
                return false;
            }
            put(',');
            if ((code & 0x80) != 0) {
                return tellIndexed(code & 15);
            }
            putRegister(code & 15);
            return true;
        }

        private boolean tellOne(int code) {
            int which = (code >> 7) & 7;
            if (which == RETI && code != 0x1300) {
                return false;
            }
            putName(NAME_RRC + which, code & 0x40);
            if (which == RETI) {
                length--;
                return true;
            }
            return tellSource((code >> 4) & 3, code & 15, which < PUSH);
        }

        private boolean tellSource(int as, int s, boolean constants) {
            if (as == 0) {
                if (s == Core.ZERO && constants) {
                    putBehindHash(0);
                } else {
                    putRegister(s);
                }
                return true;
            }
            if (Core.isConstant(as, s)) {
                putBehindHash(Core.constant(as, s));
                return constants;
            }
            if (as == 1) {
                return tellIndexed(s);
            }
            if (s == Core.PC) {
                return as == 3 && tellNextNumber(constants);
            }
            put('@');
            putRegister(s);
            if (as == 3) {
                put('+');
            }
            return true;
        }

        private boolean tellNextNumber(boolean constants) {
            if (next >= MEMORY_BYTES) {
                return false;
            }
            int number = bus.lookWord(next);
            next += 2;
            if (constants && isMadeShort(number)) {
                return false;
            }
            putBehindHash(number);
            return true;
        }

        private static boolean isMadeShort(int number) {
            return number <= 2 || number == 4 || number == 8 || number == 0xFFFF;
        }

        private boolean tellIndexed(int r) {
            if (next >= MEMORY_BYTES || r == Core.ZERO) {
                return false;
            }
            int x = bus.lookWord(next);
            if (r == Core.PC) {
                putNumber((next + x) & 0xFFFF);
            } else if (r == Core.SR) {
                put('&');
                putNumber(x);
            } else {
                putNumber(x);
                put('(');
                putRegister(r);
                put(')');
            }
            next += 2;
            return true;
        }

        private void put(int sign) {
            if (length < ROOM) {
                out[length] = sign;
                length++;
            }
        }

        private void putName(int name, int withB) {
            for (int k = 0; k < Tokens.NAME_WIDTH && Tokens.nameSign(name, k) != ' '; k++) {
                put(Tokens.nameSign(name, k));
            }
            if (withB != 0) {
                put('.');
                put('b');
            }
            put(' ');
        }

        private void putRegister(int r) {
            put('r');
            putNumber(r);
        }

        private void putBehindHash(int number) {
            put('#');
            if (number == 0xFFFF) {
                put('-');
                put('1');
            } else {
                putNumber(number);
            }
        }

        private void putNumber(int number) {
            int unit = 1;
            for (int k = 0; k < 4 && number >= unit * 10; k++) {
                unit *= 10;
            }
            for (; unit > 0; unit /= 10) {
                put('0' + number / unit % 10);
            }
        }
    }
}
