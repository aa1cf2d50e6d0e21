/** The edges that "Terms" and "RUNS" name, one method a sentence: wraps, even PC and SP, carries, HALT, requests. */
final class CodeEdgesTest {
    private static final int C = 1;
    private static final int Z = 2;
    private static final int N = 4;
    private static final int V = 0x100;

    public static void main(String[] args) {
        lowestBitOfAWordsAddress();
        pcIsAlwaysEven();
        spIsAlwaysEven();
        bitsOfSrThatAreKept();
        r3IsAlwaysZero();
        whatIsNoCode();
        pcGoesOnBehindTheEnd();
        addressesByAll16Bits();
        goingOnBehindTheEnd();
        stackOverTheEnds();
        jumpsToBothEnds();
        sourceAheadOfTheDestination();
        bytesOfRegistersAndMemory();
        carriesAndSigns();
        everySumOfBytes();
        digitsAboveNine();
        movDoesNotRead();
        compareAndBitWriteNowhere();
        resultsToR2();
        turnsAtTheirEdges();
        constantsAreWrittenNowhere();
        operandsAreGotAhead();
        retiWhateverAsAndS();
        cyclesToPc();
        haltIsNoStep();
        requestsNeedGie();
        interruptsOverTheEnds();
        napsGoByOneCycle();
        Check.finish();
    }

    private static NapMachine atEnd(int... words) {
        NapMachine m = new NapMachine();
        int from = 0x10000 - 2 * words.length;
        for (int k = 0; k < words.length; k++) {
            Check.putWord(m, from + 2 * k, words[k]);
        }
        m.set(0, from);
        return m;
    }

    /** "of an address of a word the lowest bit counts for nothing" */
    private static void lowestBitOfAWordsAddress() {
        NapMachine m = Check.machine("mov @r4,r5\nmov 1(r6),r7\nmov r8,1(r6)\nmov &0xffff,r9\nadd @r4+,r10\nrra @r4\n"
            + "mov.b @r4,r11");
        m.set(4, 0x301);
        m.set(6, 0x302);
        m.set(8, 0xABCD);
        Check.putWord(m, 0x300, 0x1234);
        Check.putWord(m, 0x302, 0x5678);
        Check.putWord(m, 0xFFFE, 0x9ABC);
        m.run(5, -1);
        Check.same("@r4", m.register(5), 0x1234);
        Check.same("1(r6)", m.register(7), 0x5678);
        Check.same("written to 1(r6)", Check.word(m, 0x302), 0xABCD);
        Check.same("nothing behind it", Check.word(m, 0x304), 0);
        Check.same("&0xffff", m.register(9), 0x9ABC);
        Check.same("@r4+", m.register(10), 0x1234);
        Check.same("r4 itself is odd still", m.register(4), 0x303);
        m.run(2, -1);
        Check.same("rra @r4", Check.word(m, 0x302), 0xD5E6);
        Check.same("a byte's counts", m.register(11), 0xD5);
    }

    /** "R0 is PC (always even: its lowest bit is cleared when it is written)" */
    private static void pcIsAlwaysEven() {
        String[] texts = {"mov #0xd001,pc", "br #0xd001", "call #0xd001", "add r4,pc", "mov.b #0x31,pc", "mov @r5,pc",
            "bis #1,pc", "mov r6,pc", "call r6", "rra pc"};
        int[] places = {0xD000, 0xD000, 0xD000, 0xC002 + 0x10, 0x30, 0xD002, 0xC002, 0xD004, 0xD004, 0xE000};
        for (int k = 0; k < texts.length; k++) {
            NapMachine m = Check.machine(texts[k]);
            m.set(4, 0x11);
            m.set(5, 0x300);
            m.set(6, 0xD005);
            m.set(8, 1);
            Check.putWord(m, 0x300, 0xD003);
            m.run(1, -1);
            Check.same(texts[k], m.register(0), places[k]);
        }
        NapMachine back = Check.machine("reti");
        Check.putWord(back, 0x402, 0xD007);
        back.run(1, -1);
        Check.same("reti", back.register(0), 0xD006);
        NapMachine vector = Check.machine("nop\norg 0xfff2\nword 0xd009");
        Check.putWord(vector, 0x162, 0x11);
        vector.set(2, 8);
        vector.run(1, -1);
        Check.same("a vector", vector.register(0), 0xD008);
    }

    /** "R1 SP (likewise)" */
    private static void spIsAlwaysEven() {
        NapMachine m = Check.machine("add #1,sp\nmov #0x333,sp\nmov.b #0x77,sp\nsub #1,sp");
        int[] due = {0x400, 0x332, 0x76, 0x74};
        for (int k = 0; k < due.length; k++) {
            m.run(1, -1);
            Check.same("SP behind STEP " + k, m.register(1), due[k]);
        }
        NapMachine popped = Check.machine("mov @sp+,r4\nmov.b @sp+,r5");
        popped.run(1, -1);
        Check.same("by 2", popped.register(1), 0x402);
        popped.run(1, -1);
        Check.same("always by 2", popped.register(1), 0x404);
    }

    /** "0 C, 1 Z, 2 N, 3 GIE, 4 CPUOFF, 5 OSCOFF, 6, 7 SCG1, 8 V are kept, the others are 0" */
    private static void bitsOfSrThatAreKept() {
        for (int bit = 0; bit < 16; bit++) {
            int due = bit <= 8 ? 1 << bit : 0;
            NapMachine m = Check.machine("mov r4,sr");
            m.set(4, 1 << bit);
            m.run(1, -1);
            Check.same("bit " + bit + " by mov", m.register(2), due);
            m.set(2, 1 << bit);
            Check.same("bit " + bit + " by set", m.register(2), due);
            NapMachine back = Check.machine("reti");
            Check.putWord(back, 0x400, 1 << bit);
            back.run(1, -1);
            Check.same("bit " + bit + " by reti", back.register(2), due);
        }
    }

    /** "R3 is 0 always (what is written goes nowhere)" */
    private static void r3IsAlwaysZero() {
        NapMachine m = Check.machine("mov #0x1234,r3\nadd #-1,r3\nbis.b #0xf,r3\nmov r3,r4\nmov r5,r3");
        m.set(4, 7);
        m.set(3, 9);
        Check.same("set", m.register(3), 0);
        m.run(2, -1);
        Check.same("r3", m.register(3), 0);
        Check.same("flags of 0 and -1", m.register(2), N);
        m.run(3, -1);
        Check.same("r3", m.register(3), 0);
        Check.same("mov r3,r4", m.register(4), 0);
    }

    /** "All else, and ONE 7, and ONE 1, 3, 5, 6 with B, is no CODE." */
    private static void whatIsNoCode() {
        NapMachine m = new NapMachine();
        for (int word = 0; word < 0x4001; word++) {
            boolean isOne = word >> 10 == 4;
            int which = word >> 7 & 7;
            boolean b = (word >> 6 & 1) == 1;
            boolean isCode = word >= 0x2000 || (isOne && which <= 6 && !(b && which % 2 == 1) && !(b && which == 6));
            m.set(2, 0);
            m.set(1, 0x8000);
            m.set(0, 0x6000);
            Check.putWord(m, 0x6000, word);
            int answer = m.run(1, -1);
            if (answer != (isCode ? 0 : 2)) {
                Check.same("run at " + word, answer, isCode ? 0 : 2);
            }
        }
    }

    /** "PC goes on by 2 first", "X the next word (at PC, which goes on by 2)", all by 16 bits. */
    private static void pcGoesOnBehindTheEnd() {
        NapMachine m = atEnd(0x4303);
        m.run(1, -1);
        Check.same("nop at 0xfffe: PC", m.register(0), 0);
        Check.same("HALT at 0", m.run(1, -1), 2);
        NapMachine number = atEnd(0x4034);
        number.set(4, 7);
        number.run(1, -1);
        Check.same("X at 0 is 0", number.register(4), 0);
        Check.same("PC is behind it", number.register(0), 2);
        NapMachine second = atEnd(0x4090, 0x0010);
        second.run(1, -1);
        Check.same("a second X at 0", second.register(0), 2);
        NapMachine called = atEnd(0x12B0, 0xC000);
        called.set(1, 0x400);
        called.run(1, -1);
        Check.same("PC that is pushed is 0", Check.word(called, 0x3FE), 0);
        Check.same("called", called.register(0), 0xC000);
    }

    /** "the memory at S + X", "S = PC: its value is the address of X itself; S = R2: X alone, absolute" by 16 bits. */
    private static void addressesByAll16Bits() {
        NapMachine m = Check.machine("mov 2(r4),r5\nmov -2(r6),r7\nmov r8,0x8002(r9)\nmov.b 1(r10),r11\nmov 0,r12\n"
            + "mov &0xfffe,r13\nmov.b -1(r14),r15");
        m.set(4, 0x300 - 2);
        m.set(6, 0);
        m.set(8, 0x4321);
        m.set(9, 0x8300);
        m.set(10, 0xFFFE);
        m.set(12, 5);
        m.set(14, 0);
        Check.putWord(m, 0x300, 0x1122);
        Check.putWord(m, 0xFFFE, 0x3344);
        m.run(7, -1);
        Check.same("2(r4)", m.register(5), 0x1122);
        Check.same("0 - 2", m.register(7), 0x3344);
        Check.same("0x8300 + 0x8002", Check.word(m, 0x302), 0x4321);
        Check.same("a byte at 0xffff", m.register(11), 0x33);
        Check.same("symbolic, far below", m.register(12), 0);
        Check.same("absolute", m.register(13), 0x3344);
        Check.same("a byte at 0 - 1", m.register(15), 0x33);
        NapMachine over = Check.machine("mov.b 1(r4),r5");
        over.set(4, 0xFFFF);
        over.set(5, 9);
        over.run(1, -1);
        Check.same("0xffff + 1 is 0, where nothing stands", over.register(5), 0);
    }

    /** "then S goes on by 1 with B, else by 2" */
    private static void goingOnBehindTheEnd() {
        NapMachine m = Check.machine("mov.b @r4+,r5\nmov @r6+,r7\nmov @r8+,r9\nmov @sp+,r10\nmov.b @r11+,r11");
        m.set(4, 0xFFFF);
        m.set(6, 0xFFFE);
        m.set(8, 0xFFFF);
        m.set(1, 0xFFFE);
        m.set(11, 0x2FF);
        m.poke(0x2FF, 0x42);
        Check.putWord(m, 0xFFFE, 0x1234);
        m.run(5, -1);
        Check.same("the byte at 0xffff", m.register(5), 0x12);
        Check.same("by 1", m.register(4), 0);
        Check.same("the word at 0xfffe", m.register(7), 0x1234);
        Check.same("by 2", m.register(6), 0);
        Check.same("the word at 0xffff", m.register(9), 0x1234);
        Check.same("by 2 from an odd one", m.register(8), 1);
        Check.same("SP", m.register(1), 0);
        Check.same("what was got is written last", m.register(11), 0x42);
    }

    /** "4 PUSH: SP less 2, the operand is written there" by 16 bits, and pops. */
    private static void stackOverTheEnds() {
        NapMachine m = Check.machine("push #0x1234\npush.b #0x56\ncall #0xd000");
        m.set(1, 0);
        m.run(1, -1);
        Check.same("SP behind 0", m.register(1), 0xFFFE);
        Check.same("the word at 0xfffe", Check.word(m, 0xFFFE), 0x1234);
        m.set(1, 0);
        m.run(1, -1);
        Check.same("the low byte alone", Check.word(m, 0xFFFE), 0x1256);
        m.set(1, 0);
        m.run(1, -1);
        Check.same("call", Check.word(m, 0xFFFE), 0xC00C);
        Check.same("SP", m.register(1), 0xFFFE);
        NapMachine back = Check.machine("reti");
        back.set(1, 0xFFFE);
        Check.putWord(back, 0xFFFE, 0x105);
        back.run(1, -1);
        Check.same("SR from 0xfffe", back.register(2), 0x105);
        Check.same("PC from 0", back.register(0), 0);
        Check.same("SP", back.register(1), 2);
        NapMachine low = Check.machine("push #5");
        low.set(1, 0x100);
        low.run(1, -1);
        Check.same("where nothing stands", Check.word(low, 0xFE), 0);
    }

    /** "PC, which is behind the CODE, and twice the offset" (with a sign) */
    private static void jumpsToBothEnds() {
        int[] places = {0xC000, 0xC000, 0xFFFE, 0xFFFE, 0xFFFE, 0x200, 0x200, 0xFC00};
        int[] offsets = {511, -512, 0, 511, -1, -512, -257, 511};
        int[] due = {0xC400, 0xBC02, 0, 0x3FE, 0xFFFE, 0xFE02, 0, 0};
        for (int k = 0; k < places.length; k++) {
            NapMachine m = new NapMachine();
            Check.putWord(m, places[k], 0x3C00 | offsets[k] & 0x3FF);
            m.set(0, places[k]);
            m.run(1, -1);
            Check.same("a jump by " + offsets[k] + " at " + places[k], m.register(0), due[k]);
        }
    }

    /** "Of TWO the source is got ahead of the destination's X." */
    private static void sourceAheadOfTheDestination() {
        NapMachine m = Check.machine("mov 2(r4),4(r5)\nmov @r6+,2(r6)\nadd @r7+,r7\nmov #5,pc");
        m.set(4, 0x300);
        m.set(5, 0x310);
        m.set(6, 0x300);
        m.set(7, 0x300);
        Check.putWord(m, 0x300, 0x1111);
        Check.putWord(m, 0x302, 0x2222);
        m.run(4, -1);
        Check.same("the first X is the source's", Check.word(m, 0x314), 0x2222);
        Check.same("r6 goes on first", Check.word(m, 0x304), 0x1111);
        Check.same("r7 goes on first", m.register(7), 0x302 + 0x1111);
        Check.same("PC goes on, then it is written", m.register(0), 4);
    }

    /** "With B operands are bytes (of a REGISTER its low one; what is written to one clears its high byte)." */
    private static void bytesOfRegistersAndMemory() {
        NapMachine m = Check.machine("mov.b r4,r5\nmov.b r4,&0x300\nadd.b #1,&0x301\ncmp.b #1,r6\nmov.b @r7+,r8\n"
            + "xor.b r9,r9\nrra.b r10\nbic.b #0,r11");
        m.set(4, 0xABCD);
        m.set(5, 0xFFFF);
        m.set(6, 0xFF01);
        m.set(7, 0x300);
        m.set(9, 0x55AA);
        m.set(10, 0xFF01);
        m.set(11, 0x1234);
        Check.putWord(m, 0x300, 0xFFEE);
        m.run(3, -1);
        Check.same("to a REGISTER", m.register(5), 0xCD);
        Check.same("to memory: one byte each", Check.word(m, 0x300), 0x00CD);
        Check.same("0xff and 1 carry out", m.register(2), C | Z);
        m.run(5, -1);
        Check.same("cmp.b leaves the high byte", m.register(6), 0xFF01);
        Check.same("by 1", m.register(7), 0x301);
        Check.same("@r7+", m.register(8), 0xCD);
        Check.same("xor.b", m.register(9), 0);
        Check.same("rra.b", m.register(10), 0);
        Check.same("bic.b #0 clears the high byte", m.register(11), 0x34);
    }

    private static void does(String text, int r4, int r5, int sr, int newR5, int newSr) {
        NapMachine m = Check.machine(text);
        m.set(4, r4);
        m.set(5, r5);
        m.set(2, sr);
        m.run(1, -1);
        String what = text + " of " + r4 + ", " + r5 + ", " + sr;
        Check.same(what, m.register(5), newR5);
        Check.same(what + ": SR", m.register(2), newSr);
    }

    /** "C what is carried out, V whether both that are added have one sign and the sum the other one" */
    private static void carriesAndSigns() {
        does("add r4,r5", 0, 0, C | N | V, 0, Z);
        does("add r4,r5", 0xFFFF, 0xFFFF, 0, 0xFFFE, C | N);
        does("add r4,r5", 0x7FFF, 0x7FFF, 0, 0xFFFE, N | V);
        does("addc r4,r5", 0xFFFF, 0, C, 0, C | Z);
        does("addc r4,r5", 0x7FFF, 0x8000, C, 0, C | Z);
        does("addc r4,r5", 0x8000, 0xFFFF, C, 0x8000, C | N);
        does("subc r4,r5", 0, 0, C, 0, C | Z);
        does("subc r4,r5", 0, 0, 0, 0xFFFF, N);
        does("subc r4,r5", 0x8000, 0x8000, 0, 0xFFFF, N);
        does("subc r4,r5", 0xFFFF, 0x7FFF, 0, 0x7FFF, 0);
        does("sub r4,r5", 0, 0x8000, 0, 0x8000, C | N);
        does("sub r4,r5", 0x8000, 0, 0, 0x8000, N | V);
        does("sub r4,r5", 0x8000, 0x8000, V, 0, C | Z);
        does("sub r4,r5", 0xFFFF, 0, 0, 1, 0);
        does("sub.b r4,r5", 0x80, 0, 0, 0x80, N | V);
        does("add.b r4,r5", 0x80, 0x80, 0, 0, C | Z | V);
        does("xor r4,r5", 0xFFFF, 0xFFFF, C, 0, Z | V);
        does("xor r4,r5", 0xFFFF, 0x7FFF, V, 0x8000, C | N);
        does("and r4,r5", 0x8000, 0x8000, V, 0x8000, C | N);
        does("bit r4,r5", 0x8000, 0x7FFF, C | V, 0x7FFF, Z);
        does("mov r4,r5", 0, 1, C | Z | N | V, 0, C | Z | N | V);
        does("bic r4,r5", 0xFFFF, 0xFFFF, C, 0, C);
        does("bis r4,r5", 0x8000, 0, Z, 0x8000, Z);
    }

    /** Each pair of bytes with and without C, by the plain numbers. */
    private static void everySumOfBytes() {
        NapMachine m = Check.machine("addc.b r4,r5\nsubc.b r4,r6");
        for (int k = 0; k < 2 * 65536; k++) {
            int a = k & 255;
            int b = k >> 8 & 255;
            int c = k >> 16;
            m.set(0, 0xC000);
            m.set(4, a);
            m.set(5, b);
            m.set(6, b);
            m.set(2, c);
            m.run(1, -1);
            int sum = a + b + c;
            int signed = (byte) a + (byte) b + c;
            boolean right = m.register(5) == (sum & 255) && m.register(2) == flags(sum & 255, sum > 255, signed);
            m.set(2, c);
            m.run(1, -1);
            int less = b - a - (1 - c);
            int signedLess = (byte) b - (byte) a - (1 - c);
            right &= m.register(6) == (less & 255) && m.register(2) == flags(less & 255, less >= 0, signedLess);
            if (!right) {
                Check.same("bytes " + a + ", " + b + " with C " + c, false, true);
            }
        }
    }

    private static int flags(int result, boolean carry, int signed) {
        return (carry ? C : 0) | (result == 0 ? Z : 0) | (result > 127 ? N : 0) | (signed < -128 || signed > 127 ? V : 0);
    }

    /** "a digit is their sum and what is carried, less 10 if that is above 9, with one carried on; four bits of it" */
    private static void digitsAboveNine() {
        does("dadd r4,r5", 4, 5, 0, 9, 0);
        does("dadd r4,r5", 5, 5, 0, 0x10, 0);
        does("dadd r4,r5", 4, 5, C, 0x10, 0);
        does("dadd r4,r5", 0xA, 0, 0, 0x10, 0);
        does("dadd r4,r5", 0xF, 0xF, C, 0x15, 0);
        does("dadd r4,r5", 0xFFFF, 0xFFFF, C, 0x5555, C);
        does("dadd r4,r5", 0x9999, 0x0001, V, 0, C | Z | V);
        does("dadd r4,r5", 0xD000, 0xD000, 0, 0x0000, C | Z);
        does("dadd r4,r5", 0x0999, 0x0001, C, 0x1001, 0);
        does("dadd.b r4,r5", 0x0199, 0x0100, C, 0, C | Z);
        does("dadd.b r4,r5", 0xFF, 0xFF, C, 0x55, C);
        does("dadd.b r4,r5", 0x50, 0x49, 0, 0x99, N);
    }

    /** "4 does not read its destination" */
    private static void movDoesNotRead() {
        NapMachine m = Check.machine("mov r4,&0x12e\nbis r4,&0x12e");
        Check.putWord(m, 0x164, 0x11);
        Check.putWord(m, 0x166, 0x11);
        Check.putWord(m, 0x160, 3);
        m.run(1, -1);
        Check.same("written: one is cleared", Check.word(m, 0x164), 0x10);
        Check.same("none by reading", Check.word(m, 0x166), 0x11);
        m.run(1, -1);
        Check.same("bis reads: another", Check.word(m, 0x166), 0x10);
        Check.same("and writes: one more", Check.word(m, 0x160), 2);
    }

    /** "CMP (as SUB, written nowhere)", "BIT (as AND, written nowhere)" */
    private static void compareAndBitWriteNowhere() {
        NapMachine m = Check.machine("cmp #0,&0x138\nbit #0,&0x138\ncmp r4,pc\nbit #0,sp\ncmp #1,&0x12e");
        Check.putWord(m, 0x134, 5);
        Check.putWord(m, 0x138, 1);
        int product = Check.word(m, 0x13A);
        Check.putWord(m, 0x164, 0x11);
        Check.putWord(m, 0x166, 0x11);
        m.run(2, -1);
        Check.same("no product is added", Check.word(m, 0x13A), product);
        m.run(2, -1);
        Check.same("PC goes on", m.register(0), 0xC00C);
        Check.same("SP stays", m.register(1), 0x400);
        m.run(1, -1);
        Check.same("read once", Check.word(m, 0x164), 0x10);
        Check.same("not written", Check.word(m, 0x166), 0x11);
    }

    /** "what goes to R2 is written behind the flags" */
    private static void resultsToR2() {
        NapMachine m = Check.machine("xor #7,sr\nsub #1,sr\nadd.b #0xff,sr\nrrc sr\nsxt sr\nswpb sr");
        m.set(2, V);
        // rrc: C comes in at bit 15, which is not kept.
        int[] due = {0x107, 0x106, 0x05, 0x02, 0x02, 0x00};
        for (int k = 0; k < due.length; k++) {
            m.run(1, -1);
            Check.same("STEP " + k, m.register(2), due[k]);
        }
    }

    /** "RRC (C comes in above, the lowest bit goes to C), RRA (the highest bit stays)", SWPB, SXT */
    private static void turnsAtTheirEdges() {
        does("rrc r5", 0, 0, 0, 0, Z);
        does("rrc r5", 0, 0, C, 0x8000, N);
        does("rrc r5", 0, 1, C | V, 0x8000, C | N);
        does("rrc r5", 0, 0xFFFF, 0, 0x7FFF, C);
        does("rrc.b r5", 0, 0xFF01, 0, 0, C | Z);
        does("rrc.b r5", 0, 0x100, C, 0x80, N);
        does("rra r5", 0, 0xFFFF, 0, 0xFFFF, C | N);
        does("rra r5", 0, 0x8000, C | Z | V, 0xC000, N);
        does("rra r5", 0, 0x7FFF, 0, 0x3FFF, C);
        does("rra.b r5", 0, 0xFF, 0, 0xFF, C | N);
        does("rra.b r5", 0, 0x180, 0, 0xC0, N);
        does("swpb r5", 0, 0x00FF, C | V, 0xFF00, C | V);
        does("sxt r5", 0, 0x7F, 0, 0x7F, C);
        does("sxt r5", 0, 0x80, 0, 0xFF80, C | N);
        does("sxt r5", 0, 0xFF00, C | N | V, 0, Z);
    }

    /** "With As 0 and R3, and where As makes a constant, 0 to 3 write nowhere (flags do change)." */
    private static void constantsAreWrittenNowhere() {
        int[] operands = {0x03, 0x13, 0x23, 0x33, 0x22, 0x32};
        for (int operand : operands) {
            for (int which : new int[] {0, 1, 2, 3}) {
                NapMachine m = Check.machine("word " + (0x1000 | which << 7 | operand));
                m.set(2, 0x100);
                String before = memoryAndRegisters(m);
                m.run(1, -1);
                Check.same("ONE " + which + " of " + operand, memoryAndRegisters(m), before);
                boolean changes = which != 1;
                Check.same("its flags", m.register(2) != 0x100, changes);
                Check.same("PC", m.register(0), 0xC002);
                Check.same("CYCLES", m.count(0), 1);
            }
        }
        NapMachine place = Check.machine("rra #0x8001\nswpb #0x1234\nrrc.b #0x1103");
        place.run(3, -1);
        Check.same("As 3 and PC: the operand's place", Check.word(place, 0xC002), 0xC000);
        Check.same("swpb", Check.word(place, 0xC006), 0x3412);
        Check.same("a byte of it", Check.word(place, 0xC00A), 0x1181);
    }

    private static String memoryAndRegisters(NapMachine m) {
        StringBuilder text = new StringBuilder();
        for (int r = 1; r < 16; r++) {
            text.append(r == 2 ? 0 : m.register(r)).append(' ');
        }
        for (int address = 0; address < 65536; address += 1) {
            text.append((char) m.peek(address));
        }
        return text.toString();
    }

    /** "(the operand is got ahead)", "CALL: the operand, then PC is pushed, PC is it" */
    private static void operandsAreGotAhead() {
        NapMachine m = Check.machine("push sp\npush @sp+\ncall sp");
        m.run(1, -1);
        Check.same("push sp", Check.word(m, 0x3FE), 0x400);
        m.run(1, -1);
        Check.same("push @sp+", Check.word(m, 0x3FE), 0x400);
        Check.same("SP", m.register(1), 0x3FE);
        m.run(1, -1);
        Check.same("call sp", m.register(0), 0x3FE);
        Check.same("PC is pushed", Check.word(m, 0x3FC), 0xC006);
        NapMachine over = Check.machine("call -2(sp)");
        Check.putWord(over, 0x3FE, 0xD000);
        over.run(1, -1);
        Check.same("got ahead of the push over it", over.register(0), 0xD000);
        Check.same("pushed", Check.word(over, 0x3FE), 0xC004);
    }

    /** "6 RETI (whatever As, S are): SR, then PC are popped" */
    private static void retiWhateverAsAndS() {
        for (int low = 0; low < 64; low++) {
            NapMachine m = Check.machine("word " + (0x1300 | low));
            Check.putWord(m, 0x400, 0x0C5);
            Check.putWord(m, 0x402, 0xD000);
            m.run(1, -1);
            Check.same("reti by " + low, m.register(2) + m.register(0) * 512, 0xC5 + 0xD000 * 512);
            Check.same("SP", m.register(1), 0x404);
            Check.same("CYCLES", m.count(0), 5);
            Check.same("no REGISTER goes on", m.register(low & 15 | 4), 0);
        }
    }

    private static void takes(int code, int x, int cycles) {
        NapMachine m = Check.machine("word " + code + "," + x);
        m.set(4, 0x300);
        m.run(1, -1);
        Check.same("CYCLES of " + code, m.count(0), cycles);
    }

    /** "1 more with Ad 0, D = PC and a source of 1, or As 3" */
    private static void cyclesToPc() {
        takes(0x4400, 0, 2);
        takes(0x4300, 0, 2);
        takes(0x4310, 0, 2);
        takes(0x4330, 0, 2);
        takes(0x4230, 0, 2);
        takes(0x4420, 0, 2);
        takes(0x4430, 0, 3);
        takes(0x4030, 0xC100, 3);
        takes(0x4410, 0, 3);
        takes(0x4480, 0, 4);
        takes(0x44B0, 0, 5);
        takes(0x4401, 0, 1);
        takes(0x4431, 0, 2);
    }

    /** "what is no CODE ends the run: HALT (PC stays, nothing is read, no CYCLE goes by, it is no STEP)" */
    private static void haltIsNoStep() {
        for (int word : new int[] {0, 0x0FFF, 0x1380, 0x10C4, 0x1400, 0x1FFF}) {
            NapMachine m = Check.machine("nop\nword " + word);
            Check.same("HALT", m.run(5000, -1), 2);
            Check.same("STEPS", m.count(1), 1);
            Check.same("PC", m.register(0), 0xC002);
            Check.same("TIME", m.count(0), 1);
            String before = Check.state(m).replaceAll("counts[-0-9 ]*", "");
            Check.same("HALT again", m.run(1, 0xC002), 2);
            Check.same("STEPS", m.count(1), 0);
            Check.same("nothing is changed", Check.state(m).replaceAll("counts[-0-9 ]*", ""), before);
        }
        NapMachine vector = new NapMachine();
        Check.putWord(vector, 0x164, 0x11);
        vector.set(0, 0x12E);
        Check.same("HALT at IV", vector.run(3, -1), 2);
        Check.same("nothing is read", Check.word(vector, 0x164), 0x11);
        Check.putWord(vector, 0x160, 0x220);
        vector.run(1, -1);
        Check.same("no beat came", Check.word(vector, 0x170), 0);
    }

    /** "If GIE is set and a request is there, it is taken" */
    private static void requestsNeedGie() {
        for (int sr = 0; sr < 512; sr += 8) {
            NapMachine m = Check.machine("nop\norg 0xffe4\nword 0xd000");
            m.poke(0x23, 0x80);
            m.poke(0x25, 0x80);
            m.set(2, sr);
            m.run(1, -1);
            boolean taken = (sr & 8) != 0;
            boolean naps = !taken && (sr & 16) != 0;
            Check.same("interrupts with SR " + sr, m.count(2), taken ? 1 : 0);
            Check.same("PC with SR " + sr, m.register(0), taken ? 0xD000 : naps ? 0xC000 : 0xC002);
            Check.same("SR behind it", m.register(2), taken ? 0 : sr);
            Check.same("TIME", m.count(0), taken ? 6 : 1);
        }
        for (int bit = 1; bit < 256; bit *= 2) {
            NapMachine m = Check.machine("nop");
            m.poke(0x23, bit);
            m.poke(0x25, 255 - bit);
            m.set(2, 8);
            m.run(1, -1);
            Check.same("IE of others", m.count(2), 0);
            m.poke(0x25, bit);
            m.run(1, -1);
            Check.same("any bit", m.count(2), 1);
        }
    }

    /** "PC and SR are pushed, SR is 0, PC the word at its vector", in that order, by 16 bits. */
    private static void interruptsOverTheEnds() {
        NapMachine m = Check.machine("nop\norg 0xfff2\nword 0xd000");
        Check.putWord(m, 0x162, 0x11);
        m.set(1, 2);
        m.set(2, 0x1F8);
        m.run(1, -1);
        Check.same("SP", m.register(1), 0xFFFE);
        Check.same("PC went to 0, where nothing stands", Check.word(m, 0), 0);
        Check.same("SR went to 0xfffe", Check.word(m, 0xFFFE), 0x1F8);
        Check.same("PC", m.register(0), 0xD000);
        NapMachine over = Check.machine("nop\norg 0xfff2\nword 0xd000");
        Check.putWord(over, 0x162, 0x11);
        over.set(1, 0xFFF4);
        over.set(2, 8);
        over.run(1, -1);
        Check.same("the vector was pushed over", over.register(0), 0xC000);
    }

    /** "Else, if CPUOFF is set, one CYCLE goes by." */
    private static void napsGoByOneCycle() {
        NapMachine m = new NapMachine();
        m.set(2, 0x10);
        Check.same("no HALT in a nap", m.run(5000, -1), 0);
        Check.same("TIME", m.count(0), 5000);
        Check.same("naps", m.count(3), 5000);
        Check.same("PC is there, it naps", m.run(7, 0), 1);
        Check.same("STEPS", m.count(1), 1);
        Check.same("naps", m.count(3), 5001);
        m.set(2, 0);
        Check.same("HALT, awake", m.run(1, -1), 2);
        m.reset();
        Check.same("since reset()", m.count(3), 0);
    }
}
