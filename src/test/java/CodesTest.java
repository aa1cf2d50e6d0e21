/** Promises 9 to 11 as far as they are CODES: operands, results, flags, CYCLES; register and set. */
final class CodesTest {
    private static final int C = 1;
    private static final int Z = 2;
    private static final int N = 4;
    private static final int V = 0x100;

    public static void main(String[] args) {
        registers();
        sums();
        byteSums();
        decimals();
        bits();
        turns();
        turnsThatWriteNowhere();
        sources();
        destinations();
        stack();
        jumps();
        statusRegister();
        cycles();
        whatIsNoCode();
        Check.finish();
    }

    /** One instruction with r4, r5 and SR ahead of it; r5 and SR behind it. */
    private static void does(String text, int r4, int r5, int sr, int newR5, int newSr) {
        NapMachine m = Check.machine(text);
        m.set(4, r4);
        m.set(5, r5);
        m.set(2, sr);
        String what = text + " of " + r4 + ", " + r5 + ", " + sr;
        Check.same(what, m.run(1, -1), 0);
        Check.same(what + ": r5", m.register(5), newR5);
        Check.same(what + ": sr", m.register(2), newSr);
    }

    private static void registers() {
        NapMachine m = new NapMachine();
        for (int r = 0; r < 16; r++) {
            m.set(r, -1);
            int due = r < 2 ? 0xFFFE : r == 2 ? 0x1FF : r == 3 ? 0 : 0xFFFF;
            Check.same("set(" + r + ", -1)", m.register(r), due);
            m.set(r, 0x12346);
            Check.same("set(" + r + ", 0x12346)", m.register(r), r == 2 ? 0x146 : r == 3 ? 0 : 0x2346);
        }
        Check.throwsIndex("register(-1)", () -> m.register(-1));
        Check.throwsIndex("register(16)", () -> m.register(16));
        Check.throwsIndex("register(max)", () -> m.register(Integer.MAX_VALUE));
        Check.throwsIndex("set(-1, 0)", () -> m.set(-1, 0));
        Check.throwsIndex("set(16, 0)", () -> m.set(16, 0));
        for (int r = 4; r < 16; r++) {
            Check.same("nothing was changed", m.register(r), 0x2346);
        }
    }

    private static void sums() {
        does("mov r4,r5", 0x8000, 7, 0x107, 0x8000, 0x107);
        does("add r4,r5", 1, 2, 0x107, 3, 0);
        does("add r4,r5", 0xFFFF, 1, 0, 0, C | Z);
        does("add r4,r5", 0x7FFF, 1, 0, 0x8000, N | V);
        does("add r4,r5", 0x8000, 0x8000, 0, 0, C | Z | V);
        does("add r4,r5", 0x8000, 0x7FFF, 0x108, 0xFFFF, N | 8);
        does("addc r4,r5", 1, 2, C, 4, 0);
        does("addc r4,r5", 1, 2, 0, 3, 0);
        does("addc r4,r5", 0xFFFF, 0xFFFF, C, 0xFFFF, C | N);
        does("addc r4,r5", 0x7FFF, 0, C, 0x8000, N | V);
        does("subc r4,r5", 1, 5, C, 4, C);
        does("subc r4,r5", 1, 5, 0, 3, C);
        does("subc r4,r5", 5, 5, 0, 0xFFFF, N);
        does("sub r4,r5", 5, 5, 0, 0, C | Z);
        does("sub r4,r5", 6, 5, 0, 0xFFFF, N);
        does("sub r4,r5", 1, 0x8000, 0, 0x7FFF, C | V);
        does("sub r4,r5", 0xFFFF, 0x7FFF, C, 0x8000, N | V);
        does("cmp r4,r5", 5, 5, 0, 5, C | Z);
        does("cmp r4,r5", 1, 0x8000, 0, 0x8000, C | V);
    }

    private static void byteSums() {
        does("mov.b r4,r5", 0x1280, 0x5678, 0, 0x80, 0);
        does("add.b r4,r5", 0x12FF, 0x3401, 0, 0, C | Z);
        does("add.b r4,r5", 0x7F, 0xFF01, 0, 0x80, N | V);
        does("addc.b r4,r5", 0xFF, 0xFF, C, 0xFF, C | N);
        does("subc.b r4,r5", 0x101, 0x105, 0, 3, C);
        does("sub.b r4,r5", 1, 0x80, 0, 0x7F, C | V);
        does("cmp.b r4,r5", 0x1205, 0x3405, 0, 0x3405, C | Z);
        does("bit.b r4,r5", 0x1280, 0x34F0, V, 0x34F0, C | N);
        does("bic.b r4,r5", 0x120F, 0x34FF, 0, 0xF0, 0);
        does("bis.b r4,r5", 0x120F, 0x34F0, 0, 0xFF, 0);
        does("xor.b r4,r5", 0x80, 0x80, 0, 0, Z | V);
        does("xor.b r4,r5", 0x01, 0x81, 0, 0x80, C | N);
        does("and.b r4,r5", 0xFF0F, 0xFFF0, 0, 0, Z);
        does("mov.b #-1,r5", 0, 0, 0, 0xFF, 0);
    }

    private static void decimals() {
        does("dadd r4,r5", 0x1234, 0x5678, 0, 0x6912, 0);
        does("dadd r4,r5", 0x9999, 0, C, 0, C | Z);
        does("dadd r4,r5", 0x9999, 0x9999, C | V, 0x9999, C | N | V);
        does("dadd r4,r5", 0x000F, 0x000F, 0, 0x0014, 0);
        does("dadd r4,r5", 0x000F, 0x000F, C, 0x0015, 0);
        does("dadd r4,r5", 0xF000, 0xF000, 0, 0x4000, C);
        does("dadd.b r4,r5", 0x1299, 0x3401, 0, 0, C | Z);
        does("dadd.b r4,r5", 0x45, 0x45, 0, 0x90, N);
        does("dadd r4,r5", 0x4000, 0x4000, V, 0x8000, N | V);
    }

    private static void bits() {
        does("bit r4,r5", 0xF000, 0x8000, V, 0x8000, C | N);
        does("bit r4,r5", 1, 2, C | V, 2, Z);
        does("bic r4,r5", 0x0F0F, 0xFFFF, 0x107, 0xF0F0, 0x107);
        does("bis r4,r5", 0x0F0F, 0x1000, 0x107, 0x1F0F, 0x107);
        does("xor r4,r5", 0x8001, 0x8000, 0, 1, C | V);
        does("xor r4,r5", 0x8000, 0x0001, V, 0x8001, C | N);
        does("xor r4,r5", 5, 5, C | V, 0, Z);
        does("and r4,r5", 0xFF00, 0x8FFF, V, 0x8F00, C | N);
        does("and r4,r5", 0xFF00, 0x00FF, C | V, 0, Z);
    }

    private static void turns() {
        does("rrc r5", 0, 0x0003, C | V, 0x8001, C | N);
        does("rrc r5", 0, 0x0001, 0, 0, C | Z);
        does("rrc.b r5", 0, 0xFF02, C, 0x81, N);
        does("rra r5", 0, 0x8001, C | V, 0xC000, C | N);
        does("rra r5", 0, 0x0001, V, 0, C | Z);
        does("rra.b r5", 0, 0x1280, C, 0xC0, N);
        does("swpb r5", 0, 0x1234, 0x107, 0x3412, 0x107);
        does("sxt r5", 0, 0x1280, V, 0xFF80, C | N);
        does("sxt r5", 0, 0xFF7F, 0, 0x007F, C);
        does("sxt r5", 0, 0xFF00, C | V, 0, Z);
        NapMachine m = Check.machine("rrc @r6+\nsxt &0x302\nrra.b 1(r7)\nswpb @r8");
        m.set(6, 0x300);
        m.set(7, 0x303);
        m.set(8, 0x306);
        Check.putWord(m, 0x300, 4);
        Check.putWord(m, 0x302, 0x80);
        Check.putWord(m, 0x304, 0x8481);
        Check.putWord(m, 0x306, 0x1234);
        m.run(4, -1);
        Check.same("rrc @r6+", Check.word(m, 0x300), 2);
        Check.same("r6 goes on", m.register(6), 0x302);
        Check.same("sxt of memory", Check.word(m, 0x302), 0xFF80);
        Check.same("rra.b of memory", Check.word(m, 0x304), 0x84C0);
        Check.same("swpb @r8", Check.word(m, 0x306), 0x3412);
        Check.same("r8 stays", m.register(8), 0x306);
    }

    private static void turnsThatWriteNowhere() {
        NapMachine m = Check.machine("rrc #2\nrra #8\nsxt #-1\nswpb #4\nrrc r3\nrra #0x8001");
        m.run(1, -1);
        Check.same("rrc #2", m.register(2), 0);
        m.run(1, -1);
        Check.same("rra #8", m.register(2), 0);
        m.run(1, -1);
        Check.same("sxt #-1", m.register(2), N | C);
        m.run(1, -1);
        Check.same("swpb #4", m.register(2), N | C);
        m.run(1, -1);
        Check.same("rrc r3: C comes in above", m.register(2), N);
        Check.same("r3", m.register(3), 0);
        m.run(1, -1);
        Check.same("rra #0x8001", m.register(2), N | C);
        Check.same("is written to its place", Check.word(m, 0xC00C), 0xC000);
        Check.same("PC is behind it", m.register(0), 0xC00E);
        NapMachine behind = Check.machine("mov #0x1234,r4\nrra #8\nmov r4,&0x300\nswpb #2");
        behind.run(4, -1);
        Check.same("not where the latest one wrote", behind.register(4), 0x1234);
        Check.same("nor there", Check.word(behind, 0x300), 0x1234);
    }

    private static void sources() {
        NapMachine m = Check.machine("mov @r6+,r10\nmov.b @r6+,r11\nmov.b @sp+,r12\nmov 2(r6),r13\nmov pc,r14\n"
            + "mov 0xc000,r15\nmov #0x1234,r4\nmov.b #0x1234,r5\nmov &0x300,r7\nadd @r8+,r8");
        m.set(6, 0x300);
        m.set(8, 0x400);
        Check.putWord(m, 0x300, 0x1122);
        Check.putWord(m, 0x302, 0x3344);
        Check.putWord(m, 0x304, 0x5566);
        Check.putWord(m, 0x400, 0x0177);
        m.run(3, -1);
        Check.same("@r6+", m.register(10), 0x1122);
        Check.same("@r6+ of a byte", m.register(11), 0x44);
        Check.same("by 2, then by 1", m.register(6), 0x303);
        Check.same("@sp+ of a byte", m.register(12), 0x77);
        Check.same("SP by 2", m.register(1), 0x402);
        m.run(7, -1);
        Check.same("a word's lowest bit counts for nothing", m.register(13), 0x5566);
        Check.same("PC is behind the CODE", m.register(14), 0xC00C);
        Check.same("symbolic", m.register(15), 0x463A);
        Check.same("#", m.register(4), 0x1234);
        Check.same("# of a byte", m.register(5), 0x34);
        Check.same("&", m.register(7), 0x1122);
        Check.same("the source is got first", m.register(8), 0x402 + 0x177);
        constants();
        NapMachine at = Check.machine("word 0x4024\nnop");
        at.run(1, -1);
        Check.same("@ of PC", at.register(4), 0x4303);
        Check.same("PC does not go on", at.register(0), 0xC002);
        NapMachine odd = Check.machine("mov.b 0(r6),r4");
        odd.set(6, 0x301);
        odd.poke(0x301, 0x99);
        odd.run(1, -1);
        Check.same("a byte at an odd address", odd.register(4), 0x99);
    }

    private static void constants() {
        int[] codes = {0x4304, 0x4314, 0x4324, 0x4334, 0x4224, 0x4234, 0x4374, 0x4364};
        int[] values = {0, 1, 2, 0xFFFF, 4, 8, 0xFF, 2};
        for (int k = 0; k < codes.length; k++) {
            NapMachine m = Check.machine("word " + codes[k]);
            m.set(4, 0x5555);
            m.set(2, 0x100);
            m.run(1, -1);
            Check.same("a constant of " + codes[k], m.register(4), values[k]);
            Check.same("PC", m.register(0), 0xC002);
        }
    }

    private static void destinations() {
        NapMachine m = Check.machine("mov #0x1234,&0x300\nmov.b #0x77,1(r6)\nadd #1,-2(r6)\nmov #5,0xc100\n"
            + "mov @r6+,0(r6)\nmov.b r6,r7");
        m.set(6, 0x300);
        m.set(4, 0xABCD);
        m.set(7, 0xFFFF);
        Check.putWord(m, 0x2FE, 0xFFFF);
        m.run(6, -1);
        Check.same("&, then a byte", Check.word(m, 0x300), 0x7734);
        Check.same("X below 0", Check.word(m, 0x2FE), 0);
        Check.same("symbolic", Check.word(m, 0xC100), 5);
        NapMachine r3 = Check.machine("word 0x4483,0x310");
        r3.set(4, 0xABCD);
        r3.run(1, -1);
        Check.same("D = R3: X alone", Check.word(r3, 0x310), 0xABCD);
        Check.same("the source ahead of X", Check.word(m, 0x302), 0x7734);
        Check.same("a byte clears the high one", m.register(7), 0x02);
        NapMachine compares = Check.machine("cmp #5,&0x300\nbit #5,&0x300");
        Check.putWord(compares, 0x300, 5);
        compares.run(2, -1);
        Check.same("cmp and bit write nowhere", Check.word(compares, 0x300), 5);
        NapMachine flagged = Check.machine("mov r4,&0x300\nmov &0x300,r5");
        flagged.set(2, 0x107);
        flagged.set(4, 0x1234);
        flagged.run(2, -1);
        Check.same("absolute, whatever R2 is", Check.word(flagged, 0x300), 0x1234);
        Check.same("likewise of the source", flagged.register(5), 0x1234);
        NapMachine wrap = Check.machine("mov r4,0x8000(r6)");
        wrap.set(4, 0x1234);
        wrap.set(6, 0x8300);
        wrap.run(1, -1);
        Check.same("addresses by 16 bits", Check.word(wrap, 0x300), 0x1234);
    }

    private static void stack() {
        NapMachine m = Check.machine("push sp\npush.b #0x1234\ncall #0xc00c\nnop\npush @sp+\nret");
        Check.putWord(m, 0x3FC, 0xFFFF);
        m.run(1, -1);
        Check.same("push sp: got ahead", Check.word(m, 0x3FE), 0x400);
        m.run(1, -1);
        Check.same("push.b: the low byte alone", Check.word(m, 0x3FC), 0xFF34);
        Check.same("SP", m.register(1), 0x3FC);
        m.run(1, -1);
        Check.same("call", m.register(0), 0xC00C);
        Check.same("PC is pushed", Check.word(m, 0x3FA), 0xC00A);
        m.run(2, -1);
        Check.same("push @sp+, ret", m.register(0), 0xC00A);
        Check.same("SP", m.register(1), 0x3FC);
        NapMachine back = Check.machine("word 0x133f");
        Check.putWord(back, 0x400, 0xFFF7);
        Check.putWord(back, 0x402, 0xD001);
        back.run(1, -1);
        Check.same("reti: SR", back.register(2), 0x1F7);
        Check.same("reti: PC", back.register(0), 0xD000);
        Check.same("reti: SP", back.register(1), 0x404);
        Check.same("reti: CYCLES", back.count(0), 5);
    }

    private static void jumps() {
        for (int flags = 0; flags < 16; flags++) {
            int sr = flags & 7 | (flags & 8) << 5;
            boolean n = (sr & N) != 0;
            boolean v = (sr & V) != 0;
            boolean c = (sr & C) != 0;
            boolean z = (sr & Z) != 0;
            boolean[] taken = {!z, z, !c, c, n, n == v, n != v, true};
            for (int which = 0; which < 8; which++) {
                NapMachine m = Check.machine("word " + (0x2000 | which << 10 | 0x3F0));
                m.set(2, sr);
                m.run(1, -1);
                Check.same("jump " + which + " with " + sr, m.register(0), taken[which] ? 0xC002 - 32 : 0xC002);
                Check.same("its CYCLES", m.count(0), 2);
            }
        }
        NapMachine m = Check.machine("org 0xfffe\njmp 2");
        m.set(0, 0xFFFE);
        m.run(1, -1);
        Check.same("PC by 16 bits", m.register(0), 2);
    }

    private static void statusRegister() {
        NapMachine m = Check.machine("add #0x1ff,sr\nmov #-1,sr");
        m.run(1, -1);
        Check.same("what goes to R2 is written behind the flags", m.register(2), 0x1FF);
        m = Check.machine("mov #-1,sr");
        m.run(1, -1);
        Check.same("bits of SR that are kept", m.register(2), 0x1FF);
        m = Check.machine("rra sr");
        m.set(2, 0x107);
        m.run(1, -1);
        Check.same("rra sr", m.register(2), 0x83);
        m = Check.machine("cmp #2,sr");
        m.set(2, 2);
        m.run(1, -1);
        Check.same("cmp #2,sr", m.register(2), C | Z);
        m = Check.machine("mov #0xd001,pc");
        m.run(1, -1);
        Check.same("PC is even", m.register(0), 0xD000);
        m = Check.machine("mov #0x301,sp\nadd #3,r3");
        m.run(2, -1);
        Check.same("SP is even", m.register(1), 0x300);
        Check.same("R3 is 0", m.register(3), 0);
    }

    private static void takes(String text, int cycles) {
        NapMachine m = Check.machine(text);
        m.set(4, 0x300);
        m.set(5, 0x300);
        Check.same(text, m.run(1, -1), 0);
        Check.same(text + ": CYCLES", m.count(0), cycles);
    }

    private static void cycles() {
        String[] sources = {"r4", "#1", "#-1", "#8", "@r4", "@r4+", "#100", "2(r4)", "&0x300", "0x300"};
        int[] own = {1, 1, 1, 1, 2, 2, 2, 3, 3, 3};
        int[] toPc = {2, 2, 2, 2, 2, 3, 3, 3, 3, 3};
        int[] turned = {1, 1, 1, 1, 3, 3, 3, 4, 4, 4};
        int[] pushed = {3, 0, 0, 0, 4, 4, 4, 5, 5, 5};
        int[] called = {4, 0, 0, 0, 4, 5, 5, 5, 5, 5};
        for (int k = 0; k < sources.length; k++) {
            takes("mov " + sources[k] + ",r5", own[k]);
            takes("mov " + sources[k] + ",2(r5)", own[k] + 3);
            takes("cmp.b " + sources[k] + ",&0x300", own[k] + 3);
            takes("add " + sources[k] + ",0x302", own[k] + 3);
            takes("mov " + sources[k] + ",pc", toPc[k]);
            takes("rra " + sources[k], turned[k]);
            takes("swpb " + sources[k], turned[k]);
            if (pushed[k] > 0) {
                takes("push " + sources[k], pushed[k]);
                takes("call " + sources[k], called[k]);
            }
        }
        takes("word 0x1213", 3);
        takes("word 0x1293", 4);
        takes("word 0x12b3", 4);
        takes("word 0x1222", 3);
        takes("mov #5,0xc100", 5);
        takes("mov pc,0xc100", 4);
    }

    private static void whatIsNoCode() {
        NapMachine edge = Check.machine("word 0x2000,0x4000");
        Check.same("0x2000 and 0x4000 are CODES", edge.run(2, -1), 0);
        Check.same("jne, mov r0,r0", edge.register(0), 0xC004);
        Check.same("CYCLES", edge.count(0), 4);
        for (int word = 0; word < 0x2000; word++) {
            boolean one = word >= 0x1000 && word < 0x1400;
            int which = word >> 7 & 7;
            boolean b = (word & 0x40) != 0;
            boolean isCode = one && which != 7 && !(b && (which == 1 || which == 3 || which == 5 || which == 6));
            if (!one && word % 37 != 0 && word != 0x1400 && word != 0x1FFF) {
                continue;
            }
            NapMachine m = new NapMachine();
            Check.putWord(m, 0xC000, word);
            m.set(0, 0xC000);
            Check.same("run at " + word, m.run(1, -1), isCode ? 0 : 2);
            Check.same("STEPS", m.count(1), isCode ? 1 : 0);
            if (!isCode) {
                Check.same("PC stays", m.register(0), 0xC000);
                Check.same("no CYCLE goes by", m.count(0), 0);
            }
        }
    }
}
