import java.util.ArrayDeque;
import java.util.Random;

/**
 * Random states and STEPS, compared with a second, plain reading of the document's "Terms", "THINGS" and "RUNS":
 * each REGISTER, THING and count behind each call, all of memory at the end.
 */
final class ModelTest {
    private static final int[] HOT = {0x20, 0x21, 0x22, 0x23, 0x24, 0x25, 0x26, 0x12E, 0x12F, 0x130, 0x131, 0x132, 0x134,
        0x136, 0x138, 0x139, 0x13A, 0x13C, 0x13D, 0x13E, 0x160, 0x161, 0x162, 0x164, 0x166, 0x168, 0x170, 0x172, 0x174,
        0x176, 0x178, 0x1FE, 0x1FF, 0x200, 0x202, 0xFFFE, 0xFFFF, 0xFFFC, 0, 1, 2, 0xFFE4, 0xFFF0, 0xFFF2};

    public static void main(String[] args) {
        for (int seed = 1; seed <= 400; seed++) {
            trial(seed);
        }
        Check.finish();
    }

    private static void trial(int seed) {
        Random random = new Random(seed);
        NapMachine machine = new NapMachine();
        Plain plain = new Plain();
        for (int address = 0x200; address < 65536; address += 2) {
            int word = someWord(random);
            Check.putWord(machine, address, word);
            plain.memory[address] = word & 255;
            plain.memory[address + 1] = word >> 8;
        }
        for (int k = 0; k < 120; k++) {
            String what = "seed " + seed + ", call " + k;
            Check.same(what, call(machine, plain, random), true);
            if (!sameState(what, machine, plain)) {
                return;
            }
        }
        for (int address = 0x200; address < 65536; address++) {
            if (machine.peek(address) != plain.memory[address]) {
                Check.same("seed " + seed + ", memory at " + address, machine.peek(address), plain.memory[address]);
            }
        }
    }

    /** Codes for the most part; addresses of THINGS, which X may be, and any word. */
    private static int someWord(Random random) {
        int kind = random.nextInt(20);
        if (kind < 4) {
            return HOT[random.nextInt(HOT.length)];
        }
        if (kind < 7) {
            return 0x1000 | random.nextInt(0x400);
        }
        return kind < 19 ? 0x4000 + random.nextInt(0xC000) : random.nextInt(65536);
    }

    private static int someValue(Random random) {
        int kind = random.nextInt(6);
        return kind == 0 ? HOT[random.nextInt(HOT.length)] : kind == 1 ? random.nextInt(20) - 10 : random.nextInt();
    }

    private static boolean call(NapMachine machine, Plain plain, Random random) {
        switch (random.nextInt(9)) {
            case 0:
                int register = random.nextInt(16);
                int value = random.nextInt(3) == 0 ? HOT[random.nextInt(HOT.length)] : someValue(random);
                machine.set(register, value);
                plain.put(register, value);
                return true;
            case 1:
                int address = random.nextInt(4) == 0 ? random.nextInt(65536) : HOT[random.nextInt(HOT.length)];
                int octet = random.nextInt(256);
                machine.poke(address, octet);
                plain.writeByte(address, octet);
                return true;
            case 2:
                int time = plain.time + random.nextInt(40) - 3;
                int in = random.nextInt(258) - 1;
                return machine.event(time, in) == plain.event(time, in);
            case 3:
                int status = random.nextInt(512) & (random.nextBoolean() ? 0x1FF : 0x1EF);
                machine.set(2, status);
                plain.put(2, status);
                return true;
            case 4:
                if (random.nextInt(12) == 0) {
                    machine.reset();
                    plain.reset();
                }
                return true;
            case 5:
                // A timer that is at work: clock, divider, mode, limits.
                int control = 0x100 + random.nextInt(0x200);
                pokeBoth(machine, plain, 0x160, control);
                pokeBoth(machine, plain, 0x172, random.nextInt(6));
                pokeBoth(machine, plain, 0x162 + 2 * random.nextInt(3), random.nextInt(32));
                return true;
            default:
                int steps = random.nextInt(5) == 0 ? random.nextInt(40) : random.nextInt(3);
                int at = random.nextInt(3) == 0 ? plain.registers[0] + 2 : -1;
                boolean same = machine.run(steps, at) == plain.run(steps, at);
                int pc = random.nextInt(3) == 0 ? random.nextInt(65536) : plain.registers[0] + 2;
                machine.set(0, pc);
                plain.put(0, pc);
                return same;
        }
    }

    private static void pokeBoth(NapMachine machine, Plain plain, int address, int word) {
        Check.putWord(machine, address, word);
        plain.writeByte(address, word & 255);
        plain.writeByte(address + 1, word >> 8 & 255);
    }

    private static boolean sameState(String what, NapMachine machine, Plain plain) {
        boolean all = true;
        for (int r = 0; r < 16; r++) {
            all &= same(what + ": r" + r, machine.register(r), plain.registers[r]);
        }
        for (int address = 0; address < 0x200; address++) {
            all &= same(what + ": THING " + address, machine.peek(address), plain.look(address));
        }
        all &= same(what + ": TIME", machine.count(0), plain.time);
        all &= same(what + ": STEPS", machine.count(1), plain.steps);
        all &= same(what + ": interrupts", machine.count(2), plain.interrupts);
        all &= same(what + ": naps", machine.count(3), plain.naps);
        return all & same(what + ": events", machine.count(4), plain.waiting.size());
    }

    private static boolean same(String what, int got, int due) {
        if (got != due) {
            Check.same(what, got, due);
        }
        return got == due;
    }

    /** The document once more, with nothing in common with the program. */
    private static final class Plain {
        final int[] memory = new int[65536];
        final int[] registers = new int[16];
        final ArrayDeque<int[]> waiting = new ArrayDeque<>();
        int time;
        int steps;
        int interrupts;
        int naps;
        private int factorKind = 0x130;
        private int beats;
        private int way = 1;

        void reset() {
            java.util.Arrays.fill(memory, 0, 0x200, 0);
            java.util.Arrays.fill(registers, 0);
            waiting.clear();
            time = 0;
            interrupts = 0;
            naps = 0;
            factorKind = 0x130;
            beats = 0;
            way = 1;
            put(0, plainWord(0xFFFE));
        }

        int event(int at, int in) {
            boolean refused = waiting.size() == 40 || at < time || in < 0 || in > 255;
            if (refused || (!waiting.isEmpty() && at < waiting.getLast()[0])) {
                return -1;
            }
            waiting.addLast(new int[] {at, in});
            return waiting.size();
        }

        void put(int r, int value) {
            int[] masks = {0xFFFE, 0xFFFE, 0x1FF, 0};
            registers[r] = value & (r < 4 ? masks[r] : 0xFFFF);
        }

        /** Words of THINGS stand in memory's own bytes here. */
        private int plainWord(int address) {
            return memory[address & 0xFFFE] + 256 * memory[address | 1];
        }

        private void putPlainWord(int address, int word) {
            memory[address & 0xFFFE] = word & 255;
            memory[address | 1] = word >> 8 & 255;
        }

        int look(int address) {
            if ((address & 0xFFFE) == 0x12E) {
                return address == 0x12E ? vector() : 0;
            }
            return memory[address];
        }

        private int vector() {
            if (plainWord(0x164) == 0x11) {
                return 2;
            }
            if (plainWord(0x166) == 0x11) {
                return 4;
            }
            return (plainWord(0x160) & 3) == 3 ? 10 : 0;
        }

        private int takeVector() {
            int vector = vector();
            int[] cleared = {0, 0x164, 0x166, 0, 0, 0x160};
            if (vector > 0) {
                memory[cleared[vector / 2]] &= 0xFE;
            }
            return vector;
        }

        private int read(int address, boolean isByte) {
            int word = (address & 0xFFFE) == 0x12E ? takeVector() : plainWord(address);
            if (!isByte) {
                return word;
            }
            return address % 2 == 0 ? word % 256 : word / 256;
        }

        private void write(int address, int value, boolean isByte) {
            if (isByte) {
                writeByte(address, value & 255);
            } else if (address < 0x120) {
                writeByte(address & 0xFFFE, value & 255);
                writeByte(address | 1, value >> 8 & 255);
            } else {
                writeWord(address & 0xFFFE, value & 0xFFFF);
            }
        }

        void writeByte(int address, int value) {
            if (address < 0x120) {
                if (address == 0x21 || (address >= 0x23 && address <= 0x25)) {
                    memory[address] = value;
                }
                return;
            }
            int low = address % 2 == 0 ? value : look(address - 1);
            int high = address % 2 == 0 ? look(address + 1) : value;
            writeWord(address & 0xFFFE, low + 256 * high);
        }

        private void writeWord(int address, int word) {
            switch (address < 0x200 ? address : 0x200) {
                case 0x12E:
                    takeVector();
                    break;
                case 0x130:
                case 0x132:
                case 0x134:
                    factorKind = address;
                    putPlainWord(0x130, word);
                    putPlainWord(0x132, word);
                    putPlainWord(0x134, word);
                    break;
                case 0x138:
                    putPlainWord(0x138, word);
                    multiply();
                    break;
                case 0x160:
                    putPlainWord(0x160, word & ~4);
                    if ((word & 4) == 4) {
                        putPlainWord(0x170, 0);
                        beats = 0;
                        way = 1;
                    }
                    break;
                case 0x162:
                case 0x164:
                case 0x166:
                    putPlainWord(address, word & 0x11);
                    break;
                case 0x13A:
                case 0x13C:
                case 0x170:
                case 0x172:
                case 0x174:
                case 0x176:
                case 0x200:
                    putPlainWord(address, word);
                    break;
                default:
                    break;
            }
        }

        private void multiply() {
            long a = plainWord(0x130);
            long b = plainWord(0x138);
            long sum = plainWord(0x13A) + 65536L * plainWord(0x13C);
            long answer = a * b;
            int extra = 0;
            if (factorKind == 0x132) {
                a -= a > 32767 ? 65536 : 0;
                b -= b > 32767 ? 65536 : 0;
                answer = a * b;
                extra = answer < 0 ? 0xFFFF : 0;
            } else if (factorKind == 0x134) {
                answer += sum;
                extra = answer > 0xFFFFFFFFL ? 1 : 0;
            }
            putPlainWord(0x13A, (int) (answer & 0xFFFF));
            putPlainWord(0x13C, (int) (answer >> 16 & 0xFFFF));
            putPlainWord(0x13E, extra);
        }

        int run(int n, int at) {
            steps = 0;
            while (steps < n) {
                int cycles = step();
                if (cycles == 0) {
                    return 2;
                }
                steps++;
                pass(cycles);
                if (registers[0] == at) {
                    return 1;
                }
            }
            return 0;
        }

        private void pass(int cycles) {
            for (int k = 0; k < cycles; k++) {
                time++;
                int clock = plainWord(0x160) >> 8 & 3;
                boolean beat = clock == 2 && (registers[2] & 0x80) == 0;
                beat |= clock == 1 && time % 16 == 0 && (registers[2] & 0x20) == 0;
                if (beat) {
                    beats++;
                    int due = new int[] {1, 2, 4, 8}[plainWord(0x160) >> 6 & 3];
                    if (beats >= due) {
                        beats = 0;
                        count();
                    }
                }
            }
        }

        private void count() {
            int mode = plainWord(0x160) >> 4 & 3;
            int tar = plainWord(0x170);
            int limit = plainWord(0x172);
            if (mode == 0 || (limit == 0 && mode != 2)) {
                return;
            }
            if (mode == 3) {
                way = tar >= limit ? -1 : tar == 0 ? 1 : way;
                tar += way;
            } else if (mode == 2) {
                tar = tar == 65535 ? 0 : tar + 1;
            } else {
                tar = tar >= limit ? 0 : tar + 1;
            }
            putPlainWord(0x170, tar);
            for (int k = 0; k < 3; k++) {
                memory[0x162 + 2 * k] |= tar == plainWord(0x172 + 2 * k) ? 1 : 0;
            }
            memory[0x160] |= tar == 0 ? 1 : 0;
        }

        /** The CYCLES of it; 0 at HALT. */
        private int step() {
            while (!waiting.isEmpty() && waiting.getFirst()[0] <= time) {
                int in = waiting.removeFirst()[1];
                for (int bit = 1; bit < 256; bit *= 2) {
                    boolean before = (memory[0x20] & bit) != 0;
                    boolean now = (in & bit) != 0;
                    boolean falling = (memory[0x24] & bit) != 0;
                    if (before != now && before == falling) {
                        memory[0x23] |= bit;
                    }
                }
                memory[0x20] = in;
            }
            int at = 0;
            if ((registers[2] & 8) != 0) {
                at = plainWord(0x162) == 0x11 ? 0xFFF2 : vector() > 0 ? 0xFFF0
                    : (memory[0x23] & memory[0x25]) != 0 ? 0xFFE4 : 0;
            }
            if (at != 0) {
                memory[0x162] &= at == 0xFFF2 ? 0xFE : 0xFF;
                push(registers[0]);
                push(registers[2]);
                registers[2] = 0;
                put(0, read(at, false));
                interrupts++;
                return 6;
            }
            if ((registers[2] & 16) != 0) {
                naps++;
                return 1;
            }
            return code();
        }

        private void push(int word) {
            put(1, registers[1] - 2);
            write(registers[1], word, false);
        }

        private int pop() {
            int word = read(registers[1], false);
            put(1, registers[1] + 2);
            return word;
        }

        private int code() {
            int code = look(registers[0]) + 256 * look(registers[0] + 1);
            String bits = String.format("%16s", Integer.toBinaryString(code)).replace(' ', '0');
            boolean one = bits.startsWith("000100");
            int which = code >> 7 & 7;
            boolean b = bits.charAt(9) == '1';
            if (code < 0x2000 && (!one || which == 7 || (b && (which % 2 == 1 || which == 6)))) {
                return 0;
            }
            put(0, registers[0] + 2);
            if (one) {
                return one(which, b, code >> 4 & 3, code & 15);
            }
            return bits.startsWith("001") ? jump(code >> 10 & 7, code & 1023) : two(code, b);
        }

        private int jump(int which, int offset) {
            int sr = registers[2];
            boolean c = (sr & 1) != 0;
            boolean z = (sr & 2) != 0;
            boolean n = (sr & 4) != 0;
            boolean v = (sr & 256) != 0;
            boolean[] goes = {!z, z, !c, c, n, n == v, n != v, true};
            if (goes[which]) {
                put(0, registers[0] + 2 * (offset > 511 ? offset - 1024 : offset));
            }
            return 2;
        }

        /** Where an operand is: an address; -1 - a REGISTER; -100 - a constant. */
        private int source(int as, int s, boolean b) {
            if (as == 0) {
                return -1 - s;
            }
            if (s == 3) {
                return -100 - new int[] {0, 1, 2, b ? 255 : 65535}[as];
            }
            if (s == 2 && as > 1) {
                return -100 - 4 * (as - 1);
            }
            if (as == 1) {
                return indexed(s);
            }
            return registers[s];
        }

        private int indexed(int r) {
            int base = r == 2 || r == 3 ? 0 : registers[r];
            int x = read(registers[0], false);
            put(0, registers[0] + 2);
            return base + x & 0xFFFF;
        }

        private void goOn(int as, int s, boolean b) {
            if (as == 3 && s != 2 && s != 3) {
                put(s, registers[s] + (b && s > 1 ? 1 : 2));
            }
        }

        private int get(int where, boolean b) {
            if (where <= -100) {
                return -100 - where;
            }
            return where < 0 ? registers[-1 - where] & (b ? 255 : 65535) : read(where, b);
        }

        private void give(int where, int value, boolean b) {
            if (where >= 0) {
                write(where, value, b);
            } else if (where > -100) {
                put(-1 - where, value & (b ? 255 : 65535));
            }
        }

        private void flags(int result, boolean b, boolean c, boolean v) {
            int sr = registers[2] & 0xF8;
            sr += c ? 1 : 0;
            sr += result == 0 ? 2 : 0;
            sr += result >= (b ? 128 : 32768) ? 4 : 0;
            registers[2] = sr + (v ? 256 : 0);
        }

        private int one(int which, boolean b, int as, int s) {
            if (which == 6) {
                put(2, pop());
                put(0, pop());
                return 5;
            }
            int where = source(as, s, b);
            int value = get(where, b);
            goOn(as, s, b);
            int far = where < 0 ? 0 : as;
            int carry = registers[2] & 1;
            int top = b ? 128 : 32768;
            switch (which) {
                case 0:
                case 2:
                    int turned = value / 2 + (which == 0 ? carry * top : value >= top ? top : 0);
                    flags(turned, b, value % 2 == 1, false);
                    give(where, turned, b);
                    break;
                case 1:
                    give(where, value % 256 * 256 + value / 256, false);
                    break;
                case 3:
                    int wide = value % 256 < 128 ? value % 256 : 0xFF00 + value % 256;
                    flags(wide, false, wide != 0, false);
                    give(where, wide, false);
                    break;
                case 4:
                    put(1, registers[1] - 2);
                    write(registers[1], value, b);
                    return new int[] {3, 5, 4, 4}[far];
                default:
                    push(registers[0]);
                    put(0, value);
                    return new int[] {4, 5, 4, 5}[far];
            }
            return new int[] {1, 4, 3, 3}[far];
        }

        private int two(int code, boolean b) {
            int which = code >> 12;
            int s = code >> 8 & 15;
            int as = code >> 4 & 3;
            int d = code & 15;
            boolean inMemory = (code & 128) != 0;
            int from = source(as, s, b);
            int value = get(from, b);
            goOn(as, s, b);
            int to = inMemory ? indexed(d) : -1 - d;
            int old = which == 4 ? 0 : get(to, b);
            int result = result(which, value, old, b);
            if (which != 9 && which != 11) {
                give(to, result, b);
            }
            int cycles = from < 0 ? 1 : as == 1 ? 3 : 2;
            boolean more = !inMemory && d == 0 && (cycles == 1 || as == 3);
            return cycles + (inMemory ? 3 : 0) + (more ? 1 : 0);
        }

        private int result(int which, int source, int old, boolean b) {
            int all = b ? 255 : 65535;
            int top = b ? 128 : 32768;
            int carry = registers[2] & 1;
            int result;
            switch (which) {
                case 4:
                    return source;
                case 12:
                    return old & (all - source);
                case 13:
                    return old | source;
                case 10:
                    return decimal(source, old, b);
                case 11:
                case 15:
                    result = source & old;
                    flags(result, b, result != 0, false);
                    return result;
                case 14:
                    result = (source | old) - (source & old);
                    flags(result, b, result != 0, source >= top && old >= top);
                    return result;
                default:
                    int added = which == 5 || which == 6 ? source : all - source;
                    int more = which == 5 ? 0 : which == 6 || which == 7 ? carry : 1;
                    int sum = added + old + more;
                    result = sum % (all + 1);
                    boolean oneSign = added >= top == old >= top;
                    flags(result, b, sum > all, oneSign && result >= top != old >= top);
                    return result;
            }
        }

        private int decimal(int source, int old, boolean b) {
            int carry = registers[2] & 1;
            int result = 0;
            int unit = 1;
            for (int k = 0; k < (b ? 2 : 4); k++) {
                int digit = source / unit % 16 + old / unit % 16 + carry;
                carry = 0;
                if (digit > 9) {
                    digit -= 10;
                    carry = 1;
                }
                result += digit % 16 * unit;
                unit *= 16;
            }
            flags(result, b, carry == 1, (registers[2] & 256) != 0);
            return result;
        }
    }
}
