/** Promises 12 (peek), 13 (poke), and the THINGS below 0x200. */
final class ThingsTest {
    public static void main(String[] args) {
        peekAndPoke();
        nothingElseIsThere();
        port();
        multiplier();
        multiplierByBytes();
        timerRegisters();
        vector();
        modes();
        beats();
        clocks();
        Check.finish();
    }

    private static void peekAndPoke() {
        NapMachine m = new NapMachine();
        Check.same("poke(0x200, 255)", m.poke(0x200, 255), true);
        Check.same("poke(0xffff, 1)", m.poke(0xFFFF, 1), true);
        Check.same("peek(0x200)", m.peek(0x200), 255);
        Check.same("peek(0x201)", m.peek(0x201), 0);
        Check.same("peek(0xffff)", m.peek(0xFFFF), 1);
        Check.same("poke(0x200, 256)", m.poke(0x200, 256), false);
        Check.same("poke(0x200, -1)", m.poke(0x200, -1), false);
        Check.same("changed nothing", m.peek(0x200), 255);
        Check.throwsIndex("peek(-1)", () -> m.peek(-1));
        Check.throwsIndex("peek(65536)", () -> m.peek(65536));
        Check.throwsIndex("poke(-1, 0)", () -> m.poke(-1, 0));
        Check.throwsIndex("poke(65536, 0)", () -> m.poke(65536, 0));
        Check.throwsIndex("poke(65536, 256)", () -> m.poke(65536, 256));
        Check.same("TIME stays", m.count(0), 0);
    }

    private static boolean isThing(int address) {
        int even = address & 0x1FE;
        return (address >= 0x21 && address <= 0x25 && address != 0x22) || (even >= 0x130 && even <= 0x134)
            || even == 0x138 || even == 0x13A || even == 0x13C || even == 0x13E || even == 0x12E
            || (even >= 0x160 && even <= 0x166) || (even >= 0x170 && even <= 0x176);
    }

    private static void nothingElseIsThere() {
        for (int address = 0; address < 0x200; address++) {
            if (isThing(address)) {
                continue;
            }
            NapMachine m = new NapMachine();
            Check.same("poke", m.poke(address, 0xA5), true);
            for (int k = 0; k < 0x200; k++) {
                if (m.peek(k) != 0) {
                    Check.same("poke(" + address + ") changed " + k, m.peek(k), 0);
                }
            }
        }
        NapMachine m = new NapMachine();
        m.poke(0x1FF, 7);
        Check.same("0x1ff", m.peek(0x1FF), 0);
        NapMachine code = Check.machine("mov #-1,&0x22\nmov #-1,&0x20\nmov #-1,&0x24\nmov #-1,&0x26\nmov #-1,&0x136\n"
            + "mov &0x22,r4\nmov &0x20,r5\nmov &0x24,r6\nmov &0x26,r7\nmov &0x136,r8\nmov &0x21,r9\nmov.b &0x21,r10");
        code.run(12, -1);
        Check.same("0x22, and IFG", code.register(4), 0xFF00);
        Check.same("IN is not written, OUT is", code.register(5), 0xFF00);
        Check.same("IES, IE", code.register(6), 0xFFFF);
        Check.same("0x26", code.register(7), 0);
        Check.same("0x136", code.register(8), 0);
        Check.same("the lowest bit of a word's address", code.register(9), 0xFF00);
        Check.same("OUT", code.register(10), 0xFF);
        NapMachine apart = Check.machine("mov #0x1234,&0x20\nmov #0x5678,&0x22\nmov #0x9abc,&0x24\nmov #0xdef0,&0x200\n"
            + "mov &0x200,r4\nmov.b &0x201,r5\nmov.b #7,&0x200\nmov &0x200,r6");
        apart.run(8, -1);
        int[] due = {0, 0x12, 0, 0x56, 0xBC, 0x9A};
        for (int k = 0; k < due.length; k++) {
            Check.same("byte " + k + " of the PORT", apart.peek(0x20 + k), due[k]);
        }
        Check.same("memory from 0x200 on", apart.register(4), 0xDEF0);
        Check.same("a byte of it", apart.register(5), 0xDE);
        Check.same("a byte of it written", apart.register(6), 0xDE07);
    }

    private static void port() {
        NapMachine m = Check.machine("nop\nnop\nnop\nnop");
        m.poke(0x20, 5);
        Check.same("IN is not written", m.peek(0x20), 0);
        m.poke(0x24, 0xF0);
        m.event(0, 0x3C);
        m.run(1, -1);
        Check.same("IN", m.peek(0x20), 0x3C);
        Check.same("from 0 to 1 where IES is 0", m.peek(0x23), 0x0C);
        m.poke(0x23, 0);
        m.event(1, 0xC3);
        m.run(1, -1);
        Check.same("both ways", m.peek(0x23), 0x33);
        m.event(2, 0xC3);
        m.poke(0x23, 0);
        m.poke(0x24, 0);
        m.run(1, -1);
        Check.same("no change, no IFG", m.peek(0x23), 0);
        m.event(3, 0);
        m.poke(0x23, 0x80);
        m.run(1, -1);
        Check.same("IFG stays", m.peek(0x23), 0x80);
        Check.same("IN is 0", m.peek(0x20), 0);
    }

    private static void multiplies(int kind, int first, int second, int low, int high, int extension) {
        NapMachine m = new NapMachine();
        Check.putWord(m, 0x13A, 0xFFFF);
        Check.putWord(m, 0x13C, 0xFFFF);
        NapMachine code = Check.machine("mov r4,0(r6)\nmov r5,&0x138");
        Check.putWord(code, 0x13A, 0xFFFF);
        Check.putWord(code, 0x13C, 0xFFFF);
        code.set(4, first);
        code.set(5, second);
        code.set(6, kind);
        code.run(2, -1);
        String what = kind + ": " + first + " by " + second;
        Check.same(what + " low", Check.word(code, 0x13A), low);
        Check.same(what + " high", Check.word(code, 0x13C), high);
        Check.same(what + " extension", Check.word(code, 0x13E), extension);
        for (int k = 0x130; k <= 0x134; k += 2) {
            Check.same(what + " first factor", Check.word(code, k), first);
        }
        Check.same(what + " second factor", Check.word(code, 0x138), second);
    }

    private static void multiplier() {
        multiplies(0x130, 0xFFFF, 0xFFFF, 1, 0xFFFE, 0);
        multiplies(0x130, 3, 5, 15, 0, 0);
        multiplies(0x132, 0xFFFF, 0xFFFF, 1, 0, 0);
        multiplies(0x132, 0xFFFF, 5, 0xFFFB, 0xFFFF, 0xFFFF);
        multiplies(0x132, 0x8000, 0x8000, 0, 0x4000, 0);
        multiplies(0x132, 0x8000, 0x7FFF, 0x8000, 0xC000, 0xFFFF);
        multiplies(0x132, 0xFFFF, 0, 0, 0, 0);
        multiplies(0x134, 1, 1, 0, 0, 1);
        multiplies(0x134, 0, 5, 0xFFFF, 0xFFFF, 0);
        multiplies(0x134, 0xFFFF, 0xFFFF, 0, 0xFFFE, 1);
        NapMachine m = Check.machine("mov #2,&0x134\nmov #3,&0x138\nmov #4,&0x138\nmov #-1,&0x13e");
        m.run(4, -1);
        Check.same("added twice", Check.word(m, 0x13A), 14);
        Check.same("0x13e is not written", Check.word(m, 0x13E), 0);
        NapMachine signed = Check.machine("mov #-1,&0x132\nmov #1,&0x138\nmov #2,&0x130\nmov #1,&0x138");
        signed.run(2, -1);
        Check.same("below 0", Check.word(signed, 0x13E), 0xFFFF);
        signed.run(2, -1);
        Check.same("not again", Check.word(signed, 0x13E), 0);
    }

    private static void multiplierByBytes() {
        NapMachine m = new NapMachine();
        m.poke(0x130, 2);
        m.poke(0x138, 3);
        Check.same("the product of the low bytes", Check.word(m, 0x13A), 6);
        m.poke(0x139, 1);
        Check.same("the word is written whole", Check.word(m, 0x13A), 2 * 0x103);
        m.poke(0x133, 0xFF);
        Check.same("its other byte as it is", Check.word(m, 0x130), 0xFF02);
        m.poke(0x139, 0);
        Check.same("with a sign now", Check.word(m, 0x13C), 0xFFFF);
        Check.same("below 0", Check.word(m, 0x13E), 0xFFFF);
        m.poke(0x13B, 0x12);
        m.poke(0x13C, 0x34);
        Check.same("0x13b", m.peek(0x13B), 0x12);
        Check.same("0x13c", m.peek(0x13C), 0x34);
    }

    private static void timerRegisters() {
        NapMachine m = new NapMachine();
        Check.putWord(m, 0x170, 0x1234);
        for (int k = 0; k < 3; k++) {
            Check.putWord(m, 0x162 + 2 * k, 0xFFFF);
            Check.putWord(m, 0x172 + 2 * k, 0x1111 * (k + 1));
        }
        Check.same("TAR", Check.word(m, 0x170), 0x1234);
        for (int k = 0; k < 3; k++) {
            Check.same("CC" + k, Check.word(m, 0x162 + 2 * k), 0x11);
            Check.same("CCR" + k, Check.word(m, 0x172 + 2 * k), 0x1111 * (k + 1));
        }
        Check.putWord(m, 0x160, 0x3F3);
        Check.same("CTL", Check.word(m, 0x160), 0x3F3);
        Check.same("TAR stays", Check.word(m, 0x170), 0x1234);
        m.poke(0x160, 0xF7);
        Check.same("CTL's bit 2 is read as 0", Check.word(m, 0x160), 0x3F3);
        Check.putWord(m, 0x160, 0xFC0C);
        Check.same("CTL's other bits are as those of memory", Check.word(m, 0x160), 0xFC08);
        Check.same("TAR is 0", Check.word(m, 0x170), 0);
    }

    private static void vector() {
        NapMachine m = Check.machine("mov &0x12e,r4\nmov.b &0x12f,r5\nmov &0x12e,r6\nmov &0x12e,r7");
        for (int address = 0x160; address <= 0x166; address += 2) {
            Check.putWord(m, address, address == 0x160 ? 3 : 0x11);
        }
        Check.same("IV", m.peek(0x12E), 2);
        Check.same("peek clears nothing", m.peek(0x12E), 2);
        m.run(1, -1);
        Check.same("CC1", m.register(4), 2);
        Check.same("its IFG is cleared", Check.word(m, 0x164), 0x10);
        Check.same("the others' not", Check.word(m, 0x162) + Check.word(m, 0x166), 0x22);
        Check.same("IV goes on", m.peek(0x12E), 4);
        m.run(1, -1);
        Check.same("the high byte", m.register(5), 0);
        Check.same("is read as the word", Check.word(m, 0x166), 0x10);
        m.run(1, -1);
        Check.same("CTL", m.register(6), 10);
        Check.same("its IFG is cleared", Check.word(m, 0x160), 2);
        m.run(1, -1);
        Check.same("none", m.register(7), 0);
        Check.putWord(m, 0x164, 1);
        Check.putWord(m, 0x166, 0x11);
        Check.same("IE counts", m.peek(0x12E), 4);
        m.poke(0x12F, 9);
        Check.same("written: likewise cleared", Check.word(m, 0x166), 0x10);
        Check.same("that one alone", Check.word(m, 0x164), 1);
        NapMachine word = Check.machine("mov r4,&0x12e");
        Check.putWord(word, 0x164, 0x11);
        Check.putWord(word, 0x166, 0x11);
        word.run(1, -1);
        Check.same("a word written", Check.word(word, 0x164), 0x10);
        Check.same("clears one", Check.word(word, 0x166), 0x11);
    }

    /** TAR after each of many beats of FAST, and the flags that are set then. */
    private static void counts(int control, int ccr0, int tar, int... due) {
        NapMachine m = new NapMachine();
        m.set(2, 0x10);
        Check.putWord(m, 0x172, ccr0);
        Check.putWord(m, 0x174, 2);
        Check.putWord(m, 0x176, 0xFFFF);
        Check.putWord(m, 0x170, tar);
        Check.putWord(m, 0x160, control);
        for (int k = 0; k < due.length; k++) {
            for (int address = 0x162; address <= 0x166; address += 2) {
                Check.putWord(m, address, 0);
            }
            m.poke(0x160, control & 0xFB);
            m.run(1, -1);
            String what = "CTL " + control + ", CCR0 " + ccr0 + ", beat " + k;
            Check.same(what, Check.word(m, 0x170), due[k]);
            boolean counted = (control & 0x30) != 0 && (ccr0 != 0 || (control & 0x30) == 0x20);
            Check.same(what + " CC0", m.peek(0x162), counted && due[k] == ccr0 ? 1 : 0);
            Check.same(what + " CC1", m.peek(0x164), counted && due[k] == 2 ? 1 : 0);
            Check.same(what + " CC2", m.peek(0x166), counted && due[k] == 0xFFFF ? 1 : 0);
            Check.same(what + " CTL", m.peek(0x160) & 1, counted && due[k] == 0 ? 1 : 0);
        }
    }

    private static void modes() {
        counts(0x200, 3, 1, 1, 1, 1);
        counts(0x200, 0, 0, 0, 0);
        counts(0x210, 3, 0, 1, 2, 3, 0, 1, 2, 3, 0);
        counts(0x210, 3, 9, 0, 1);
        counts(0x210, 0, 5, 5, 5);
        counts(0x210, 0, 0, 0, 0);
        counts(0x220, 3, 0xFFFD, 0xFFFE, 0xFFFF, 0, 1, 2, 3, 4);
        counts(0x220, 0, 0xFFFE, 0xFFFF, 0, 1);
        counts(0x230, 3, 0, 1, 2, 3, 2, 1, 0, 1, 2, 3, 2);
        counts(0x230, 3, 6, 5, 4, 3, 2, 1, 0, 1);
        counts(0x230, 1, 0, 1, 0, 1, 0);
        counts(0x230, 0, 4, 4, 4);
        counts(0x230, 3, 1, 2, 3, 2);
        counts(0x234, 3, 2, 1, 2, 3, 2);
    }

    private static void beats() {
        for (int divider = 0; divider < 4; divider++) {
            NapMachine m = new NapMachine();
            m.set(2, 0x10);
            Check.putWord(m, 0x160, 0x220 | divider << 6);
            m.run(32, -1);
            Check.same("counts of 32 beats", Check.word(m, 0x170), 32 >> divider);
            m.run(7, -1);
            Check.same("counts of 39 beats", Check.word(m, 0x170), 39 >> divider);
        }
        NapMachine m = new NapMachine();
        m.set(2, 0x10);
        Check.putWord(m, 0x160, 0x2E0);
        m.run(6, -1);
        Check.same("6 of 8 beats", Check.word(m, 0x170), 0);
        m.poke(0x160, 0x60);
        m.run(1, -1);
        Check.same("or more", Check.word(m, 0x170), 1);
        m.run(1, -1);
        Check.same("since the latest count", Check.word(m, 0x170), 1);
        m.poke(0x160, 0x64);
        m.run(1, -1);
        Check.same("no beat came", Check.word(m, 0x170), 0);
        m.run(1, -1);
        Check.same("two beats came", Check.word(m, 0x170), 1);
    }

    private static void clocks() {
        int[] counted = {0, 3, 50, 0};
        for (int clock = 0; clock < 4; clock++) {
            NapMachine m = new NapMachine();
            m.set(2, 0x10);
            Check.putWord(m, 0x160, clock << 8 | 0x20);
            m.run(50, -1);
            Check.same("clock " + clock, Check.word(m, 0x170), counted[clock]);
            Check.same("TIME", m.count(0), 50);
        }
        int[] off = {0x20, 0x80, 0x40, 0xA0, 0x107};
        int[] slow = {0, 3, 3, 0, 3};
        int[] fast = {50, 0, 50, 0, 50};
        for (int k = 0; k < off.length; k++) {
            for (int clock = 1; clock <= 2; clock++) {
                NapMachine m = new NapMachine();
                m.set(2, 0x10 | off[k]);
                Check.putWord(m, 0x160, clock << 8 | 0x20);
                m.run(50, -1);
                Check.same("clock " + clock + " with SR " + off[k], Check.word(m, 0x170), clock == 1 ? slow[k] : fast[k]);
            }
        }
        NapMachine m = Check.machine("mov #0x220,&0x160\nbis #0x80,sr\nbic #0x80,sr");
        m.run(1, -1);
        Check.same("beats come behind the CODE", Check.word(m, 0x170), 5);
        m.run(1, -1);
        Check.same("with SR as it is then", Check.word(m, 0x170), 5);
        m.run(1, -1);
        Check.same("and again", Check.word(m, 0x170), 7);
        NapMachine later = Check.machine("mov #0x120,&0x160\nnop\nnop\nnop\nnop\nnop\nnop\nnop\nnop\nnop\nnop\nnop");
        later.run(11, -1);
        Check.same("15 CYCLES", later.count(0), 15);
        Check.same("no beat of SLOW", Check.word(later, 0x170), 0);
        later.run(1, -1);
        Check.same("the 16th", Check.word(later, 0x170), 1);
    }
}
