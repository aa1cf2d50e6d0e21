/** The edges that "THINGS" names, one method a sentence: what stays 0, bytes of words, products, counts, beats. */
final class ThingEdgesTest {
    public static void main(String[] args) {
        allOthersStayZero();
        thingsEndAt0x200();
        wordsOfBytesLowerFirst();
        aByteWrittenWritesItsWord();
        aByteReadReadsItsWord();
        inIsNotWritten();
        changesOfEachBit();
        greatestProducts();
        addedOnesCarryOut();
        factorsAreOneRegister();
        whatCanBeWrittenOfProducts();
        clocksOfTheTimer();
        beatsSinceTheLatestCount();
        bit2IsReadAsZero();
        othersOfChannelsAreZero();
        vectorInItsOrder();
        mode0Nothing();
        mode1BackToZero();
        mode2Behind65535();
        mode3UpAndDown();
        limitZeroNothing();
        flagsThatAreSet();
        slowEach16thCycle();
        fastUnlessScg1();
        beatsWithSrAsItIsThen();
        peekClearsNothing();
        Check.finish();
    }

    private static boolean isByteThing(int address) {
        return address == 0x20 || address == 0x21 || (address >= 0x23 && address <= 0x25);
    }

    private static boolean isWordThing(int address) {
        int[] words = {0x12E, 0x130, 0x132, 0x134, 0x138, 0x13A, 0x13C, 0x13E, 0x160, 0x162, 0x164, 0x166, 0x170, 0x172,
            0x174, 0x176};
        for (int word : words) {
            if ((address & 0xFFFE) == word) {
                return true;
            }
        }
        return false;
    }

    /** "those told alone; all others there are 0, and stay so" */
    private static void allOthersStayZero() {
        for (int address = 0; address < 0x200; address += 2) {
            boolean told = isWordThing(address) || isByteThing(address) || isByteThing(address + 1);
            NapMachine m = Check.machine("mov r4,0(r5)\nmov 0(r5),r6\nmov.b r4,0(r5)\nmov.b r4,1(r5)\nbis r4,0(r5)");
            m.set(4, 0xA55A);
            m.set(5, address);
            m.set(6, 7);
            m.run(2, -1);
            if (!told) {
                Check.same("a word at " + address, m.register(6), 0);
                m.run(3, -1);
                m.poke(address, 0xFF);
                m.poke(address + 1, 0xFF);
                int all = 0;
                for (int k = 0; k < 0x200; k++) {
                    all += m.peek(k);
                }
                Check.same("all THINGS behind words at " + address, all, 0);
            }
        }
        NapMachine pair = Check.machine("mov #-1,&0x22\nmov #-1,&0x20");
        pair.run(2, -1);
        Check.same("0x22, beside IFG", pair.peek(0x22), 0);
        Check.same("IFG", pair.peek(0x23), 0xFF);
    }

    /** "THINGS at addresses below 0x200" */
    private static void thingsEndAt0x200() {
        NapMachine m = Check.machine("mov r4,&0x1fe\nmov r4,&0x200\nmov.b r4,&0x1ff\nmov.b r4,&0x201");
        m.set(4, 0x1234);
        m.run(4, -1);
        Check.same("0x1fe", Check.word(m, 0x1FE), 0);
        Check.same("0x200", Check.word(m, 0x200), 0x3434);
    }

    /** "bytes and words of them are read and written as of memory (a word of two bytes the lower one first)" */
    private static void wordsOfBytesLowerFirst() {
        NapMachine m = Check.machine("mov #0x1234,&0x24\nmov.b &0x24,r4\nmov.b &0x25,r5\nmov &0x25,r6\nmov #0x5678,&0x172\n"
            + "mov.b &0x172,r7\nmov.b &0x173,r8\nmov &0x173,r9\nadd.b #0x10,&0x173");
        m.run(9, -1);
        Check.same("IES", m.register(4), 0x34);
        Check.same("IE", m.register(5), 0x12);
        Check.same("both", m.register(6), 0x1234);
        Check.same("the lower byte of CCR0", m.register(7), 0x78);
        Check.same("the higher one", m.register(8), 0x56);
        Check.same("both", m.register(9), 0x5678);
        Check.same("one byte changed", Check.word(m, 0x172), 0x6678);
    }

    /** "a word (0x120 on) of which a byte is written is written whole, its other byte as it is (nothing is cleared ..)" */
    private static void aByteWrittenWritesItsWord() {
        NapMachine m = new NapMachine();
        Check.putWord(m, 0x134, 1);
        Check.putWord(m, 0x138, 2);
        Check.same("0x138's bytes: 2, then 2 again", Check.word(m, 0x13A), 4);
        m.poke(0x138, 3);
        Check.same("3 more", Check.word(m, 0x13A), 7);
        m.poke(0x139, 1);
        Check.same("0x103 more", Check.word(m, 0x13A), 7 + 0x103);
        Check.putWord(m, 0x160, 0x0003);
        m.poke(0x161, 2);
        Check.same("CTL's high byte: IFG stays", Check.word(m, 0x160), 0x0203);
        m.poke(0x163, 0xFF);
        Check.same("CC0's high byte is 0", Check.word(m, 0x162), 0);
        m.poke(0x162, 0xFF);
        Check.same("CC0", Check.word(m, 0x162), 0x11);
        m.poke(0x163, 0xFF);
        Check.same("its low byte as it is", Check.word(m, 0x162), 0x11);
        Check.putWord(m, 0x164, 0x11);
        Check.putWord(m, 0x166, 0x11);
        m.poke(0x12F, 0);
        Check.same("IV's byte written: one is cleared", Check.word(m, 0x164), 0x10);
        Check.same("none by the other byte", Check.word(m, 0x166), 0x11);
        m.poke(0x12E, 0);
        Check.same("the next", Check.word(m, 0x166), 0x10);
        Check.same("CTL's IFG stays", Check.word(m, 0x160), 0x0203);
    }

    /** "of which one is read, is read" */
    private static void aByteReadReadsItsWord() {
        for (int address = 0x12E; address <= 0x12F; address++) {
            NapMachine m = Check.machine("mov.b @r4,r5\nmov.b @r4+,r6\nmov.b 0(r7),r8");
            m.set(4, address);
            m.set(7, address);
            Check.putWord(m, 0x164, 0x11);
            Check.putWord(m, 0x166, 0x11);
            Check.putWord(m, 0x160, 3);
            m.run(1, -1);
            Check.same("CC1 in byte " + address, m.register(5), address == 0x12E ? 2 : 0);
            Check.same("its IFG", Check.word(m, 0x164), 0x10);
            Check.same("not the next one", Check.word(m, 0x166), 0x11);
            m.run(1, -1);
            Check.same("CC2 in byte " + address, m.register(6), address == 0x12E ? 4 : 0);
            Check.same("its IFG", Check.word(m, 0x166), 0x10);
            m.run(1, -1);
            Check.same("CTL in byte " + address, m.register(8), address == 0x12E ? 10 : 0);
            Check.same("its IFG", Check.word(m, 0x160), 2);
        }
    }

    /** "0x20 IN (written: nothing)" */
    private static void inIsNotWritten() {
        NapMachine m = Check.machine("mov.b #-1,&0x20\nmov #-1,&0x20\nbis.b #-1,&0x20\nnop");
        m.event(0, 0x5A);
        m.run(3, -1);
        m.poke(0x20, 0xFF);
        Check.same("IN", m.peek(0x20), 0x5A);
        Check.same("no change, no IFG of it", m.peek(0x23), 0x5A);
        Check.same("OUT of the word", m.peek(0x21), 0xFF);
    }

    /** "When bit k of IN changes from 0 to 1 (IES's bit 0), or from 1 to 0 (1), bit k of IFG is set." */
    private static void changesOfEachBit() {
        for (int bit = 1; bit < 256; bit *= 2) {
            for (int k = 0; k < 8; k++) {
                boolean before = (k & 1) != 0;
                boolean now = (k & 2) != 0;
                boolean falling = (k & 4) != 0;
                NapMachine m = Check.machine("nop\nnop");
                m.event(0, before ? bit : 0);
                m.run(1, -1);
                m.poke(0x23, 0);
                m.poke(0x24, falling ? bit : 255 - bit);
                m.event(1, now ? bit : 0);
                m.run(1, -1);
                boolean set = falling ? before && !now : !before && now;
                Check.same("IFG of bit " + bit + ", case " + k, m.peek(0x23), set ? bit : 0);
            }
        }
        NapMachine m = Check.machine("nop\nnop\nnop");
        m.event(0, 0xFF);
        m.run(1, -1);
        m.poke(0x23, 0);
        m.poke(0x24, 0xFF);
        Check.same("a new IES alone sets nothing", m.peek(0x23), 0);
        m.event(1, 0xFF);
        m.run(1, -1);
        Check.same("nor the same IN again", m.peek(0x23), 0);
        m.event(2, 0);
        m.event(2, 0xFF);
        m.run(1, -1);
        Check.same("down and up at once", m.peek(0x23), 0xFF);
        Check.same("IN is the last", m.peek(0x20), 0xFF);
    }

    private static void product(int kind, int first, int second, long sum, long due, int extension) {
        NapMachine m = Check.machine("mov r4,0(r6)\nmov r5,&0x138");
        Check.putWord(m, 0x13A, (int) sum & 0xFFFF);
        Check.putWord(m, 0x13C, (int) (sum >> 16) & 0xFFFF);
        m.set(4, first);
        m.set(5, second);
        m.set(6, kind);
        m.run(2, -1);
        String what = kind + ": " + first + " by " + second + " and " + sum;
        Check.same(what, (long) Check.word(m, 0x13C) << 16 | Check.word(m, 0x13A), due);
        Check.same(what + ": 0x13e", Check.word(m, 0x13E), extension);
    }

    /** "the first factor without a sign, 0x132 with one", "-1 of one with a sign if it is below 0, else 0" */
    private static void greatestProducts() {
        product(0x130, 0xFFFF, 0xFFFF, 5, 0xFFFE0001L, 0);
        product(0x130, 0x8000, 0x8000, 0, 0x40000000L, 0);
        product(0x130, 0, 0xFFFF, 0xFFFFFFFFL, 0, 0);
        product(0x132, 0x8000, 0x8000, 5, 0x40000000L, 0);
        product(0x132, 0x8000, 0x7FFF, 0, 0xC0008000L, 0xFFFF);
        product(0x132, 0x7FFF, 0x7FFF, 0, 0x3FFF0001L, 0);
        product(0x132, 0xFFFF, 1, 0, 0xFFFFFFFFL, 0xFFFF);
        product(0x132, 0xFFFF, 0xFFFF, 0, 1, 0);
        product(0x132, 0x8000, 0, 0xFFFFFFFFL, 0, 0);
        product(0x132, 1, 0xFFFF, 0, 0xFFFFFFFFL, 0xFFFF);
    }

    /** "0x134 without and to be added", "1 if an added one carried out" */
    private static void addedOnesCarryOut() {
        product(0x134, 0, 0, 0xFFFFFFFFL, 0xFFFFFFFFL, 0);
        product(0x134, 1, 1, 0xFFFFFFFFL, 0, 1);
        product(0x134, 1, 1, 0xFFFFFFFEL, 0xFFFFFFFFL, 0);
        product(0x134, 0xFFFF, 0xFFFF, 0xFFFFFFFFL, 0xFFFE0000L, 1);
        product(0x134, 0xFFFF, 0xFFFF, 0x0001FFFEL, 0xFFFFFFFFL, 0);
        product(0x134, 0xFFFF, 0xFFFF, 0x0001FFFFL, 0, 1);
        product(0x134, 0xFFFF, 0xFFFF, 0, 0xFFFE0001L, 0);
        NapMachine m = Check.machine("mov #1,&0x134\nmov #1,&0x138\nmov #0,&0x138\nmov #1,&0x138");
        Check.putWord(m, 0x13A, 0xFFFF);
        Check.putWord(m, 0x13C, 0xFFFF);
        int[] due = {0, 1, 0, 0};
        for (int k = 0; k < due.length; k++) {
            m.run(1, -1);
            Check.same("0x13e behind STEP " + k, Check.word(m, 0x13E), due[k]);
        }
        Check.same("added again by the second factor alone", Check.word(m, 0x13A), 1);
    }

    /** "All are read as they were written last; 0x130 to 0x134 are one register" */
    private static void factorsAreOneRegister() {
        for (int kind = 0x130; kind <= 0x134; kind += 2) {
            NapMachine m = Check.machine("mov #0x8765,0(r6)\nmov #0x4321,&0x138");
            m.set(6, kind);
            m.run(2, -1);
            for (int address = 0x130; address <= 0x134; address += 2) {
                Check.same("0x8765 by " + kind + " at " + address, Check.word(m, address), 0x8765);
            }
            Check.same("the second", Check.word(m, 0x138), 0x4321);
            Check.same("0x136 is none", Check.word(m, 0x136), 0);
        }
        NapMachine m = Check.machine("mov #-1,&0x132\nmov #2,&0x138\nmov #-1,&0x130\nmov #2,&0x138");
        m.run(2, -1);
        Check.same("with a sign", Check.word(m, 0x13C), 0xFFFF);
        m.run(1, -1);
        Check.same("the first factor alone makes no product", Check.word(m, 0x13C), 0xFFFF);
        m.run(1, -1);
        Check.same("the latest kind counts", Check.word(m, 0x13C), 1);
    }

    /** "0x13A, 0x13C can be written" */
    private static void whatCanBeWrittenOfProducts() {
        NapMachine m = Check.machine("mov #-1,&0x132\nmov #1,&0x138\nmov #0x1234,&0x13a\nmov #0x5678,&0x13c\n"
            + "mov #0x9abc,&0x13e\nmov.b #5,&0x13e");
        m.run(6, -1);
        Check.same("0x13a", Check.word(m, 0x13A), 0x1234);
        Check.same("0x13c", Check.word(m, 0x13C), 0x5678);
        Check.same("0x13e", Check.word(m, 0x13E), 0xFFFF);
        m.poke(0x13F, 1);
        Check.same("0x13e by poke", Check.word(m, 0x13E), 0xFFFF);
    }

    private static NapMachine timer(int control, int tar, int limit) {
        NapMachine m = new NapMachine();
        m.set(2, 0x10);
        Check.putWord(m, 0x174, 0x7777);
        Check.putWord(m, 0x176, 0x7777);
        Check.putWord(m, 0x172, limit);
        Check.putWord(m, 0x160, control);
        Check.putWord(m, 0x170, tar);
        return m;
    }

    private static void counts(String what, NapMachine m, int... due) {
        for (int k = 0; k < due.length; k++) {
            m.run(1, -1);
            Check.same(what + ": TAR behind beat " + k, Check.word(m, 0x170), due[k]);
        }
    }

    /** "bits 9 - 8 its clock (1 SLOW, 2 FAST, others none)" */
    private static void clocksOfTheTimer() {
        int[] due = {0, 2, 32, 0};
        for (int clock = 0; clock < 4; clock++) {
            NapMachine m = timer(clock << 8 | 0x20, 0, 0);
            m.run(32, -1);
            Check.same("clock " + clock, Check.word(m, 0x170), due[clock]);
        }
    }

    /** "it counts when 1, 2, 4, 8 of its beats came since the latest count (or more)" */
    private static void beatsSinceTheLatestCount() {
        for (int divider = 0; divider < 4; divider++) {
            NapMachine m = timer(0x220 | divider << 6, 0, 0);
            int each = 1 << divider;
            m.run(each - 1, -1);
            Check.same("one beat less, divider " + divider, Check.word(m, 0x170), 0);
            m.run(1, -1);
            Check.same("the beat, divider " + divider, Check.word(m, 0x170), 1);
            m.run(2 * each - 1, -1);
            Check.same("since the latest count", Check.word(m, 0x170), 2);
            m.run(1, -1);
            Check.same("again", Check.word(m, 0x170), 3);
        }
        NapMachine more = timer(0x2E0, 0, 0);
        more.run(5, -1);
        more.poke(0x160, 0xA0);
        more.run(1, -1);
        Check.same("or more: 6 of 4", Check.word(more, 0x170), 1);
        more.run(3, -1);
        Check.same("3 of 4", Check.word(more, 0x170), 1);
        more.run(1, -1);
        Check.same("4 of 4", Check.word(more, 0x170), 2);
        NapMachine other = timer(0x260, 0, 0);
        other.run(1, -1);
        Check.putWord(other, 0x160, 0x060);
        other.run(30, -1);
        Check.same("no clock, no beat", Check.word(other, 0x170), 0);
        Check.putWord(other, 0x160, 0x260);
        other.run(1, -1);
        Check.same("the first beat is not forgotten", Check.word(other, 0x170), 1);
    }

    /** "2 written 1: TAR is 0, no beat came, it goes up (it is read as 0)" */
    private static void bit2IsReadAsZero() {
        NapMachine m = timer(0x2B0, 0, 6);
        m.run(4 * 8 + 3, -1);
        Check.same("it goes down", Check.word(m, 0x170), 4);
        m.poke(0x160, 0xB4);
        Check.same("CTL", Check.word(m, 0x160), 0x2B0);
        Check.same("TAR", Check.word(m, 0x170), 0);
        Check.putWord(m, 0x170, 3);
        m.run(3, -1);
        Check.same("no beat came", Check.word(m, 0x170), 3);
        m.run(1, -1);
        Check.same("it goes up", Check.word(m, 0x170), 4);
        NapMachine kept = timer(0x2B0, 0, 6);
        kept.run(4 * 8 + 3, -1);
        kept.poke(0x160, 0xB0);
        kept.run(1, -1);
        Check.same("written 0: on as it was", Check.word(kept, 0x170), 3);
        NapMachine code = Check.machine("bis #4,&0x160");
        Check.putWord(code, 0x160, 0x003);
        Check.putWord(code, 0x170, 9);
        code.run(1, -1);
        Check.same("by an instruction: TAR", Check.word(code, 0x170), 0);
        Check.same("by an instruction: CTL", Check.word(code, 0x160), 3);
    }

    /** "CC0 .. CC2: bit 4 IE, 0 IFG (others 0)" */
    private static void othersOfChannelsAreZero() {
        NapMachine m = Check.machine("mov r4,&0x162\nmov r4,&0x164\nmov r4,&0x166");
        for (int value : new int[] {0xFFFF, 0xFFEE, 0x0010, 0x0001}) {
            m.set(4, value);
            m.set(0, 0xC000);
            m.run(3, -1);
            for (int address = 0x162; address <= 0x166; address += 2) {
                Check.same(value + " at " + address, Check.word(m, address), value & 0x11);
            }
        }
    }

    /** "2 if IFG of CC1 is set and its IE, else 4 (CC2), else 10 (IFG and IE of CTL), else 0; that IFG is cleared" */
    private static void vectorInItsOrder() {
        for (int k = 0; k < 64; k++) {
            NapMachine m = Check.machine("mov &0x12e,r4");
            int first = (k & 1) | (k & 2) << 3;
            int second = k >> 2 & 1 | (k & 8) << 1;
            int control = k >> 4;
            Check.putWord(m, 0x162, 0x11);
            Check.putWord(m, 0x164, first);
            Check.putWord(m, 0x166, second);
            Check.putWord(m, 0x160, control);
            int due = first == 0x11 ? 2 : second == 0x11 ? 4 : control == 3 ? 10 : 0;
            Check.same("IV as it is, case " + k, Check.word(m, 0x12E), due);
            m.run(1, -1);
            Check.same("IV, case " + k, m.register(4), due);
            Check.same("CC0, case " + k, Check.word(m, 0x162), 0x11);
            Check.same("CC1, case " + k, Check.word(m, 0x164), due == 2 ? 0x10 : first);
            Check.same("CC2, case " + k, Check.word(m, 0x166), due == 4 ? 0x10 : second);
            Check.same("CTL, case " + k, Check.word(m, 0x160), due == 10 ? 2 : control);
        }
    }

    /** "MODE 0: nothing." */
    private static void mode0Nothing() {
        NapMachine m = timer(0x200, 5, 5);
        counts("MODE 0", m, 5, 5, 5);
        Check.same("no IFG", m.peek(0x162), 0);
        NapMachine zero = timer(0x200, 0, 0);
        counts("MODE 0 at 0", zero, 0, 0);
        Check.same("no IFG of CTL", zero.peek(0x160) & 1, 0);
    }

    /** "1: TAR is 0, if it was CCR0 or above, else 1 more." */
    private static void mode1BackToZero() {
        counts("MODE 1", timer(0x210, 0, 2), 1, 2, 0, 1, 2, 0);
        counts("MODE 1 from CCR0", timer(0x210, 2, 2), 0, 1);
        counts("MODE 1 from above", timer(0x210, 3, 2), 0, 1);
        counts("MODE 1 from far above", timer(0x210, 0xFFFF, 2), 0, 1);
        counts("MODE 1 from below", timer(0x210, 1, 2), 2, 0);
        counts("MODE 1 of 1", timer(0x210, 0, 1), 1, 0, 1, 0);
        counts("MODE 1 of 65535", timer(0x210, 0xFFFE, 0xFFFF), 0xFFFF, 0, 1);
    }

    /** "2: 1 more (behind 65535 0)." */
    private static void mode2Behind65535() {
        counts("MODE 2", timer(0x220, 0xFFFE, 2), 0xFFFF, 0, 1, 2, 3, 4);
        NapMachine m = timer(0x220, 0xFFFE, 0xFFFF);
        m.run(1, -1);
        Check.same("65535: CC0", m.peek(0x162), 1);
        Check.same("65535: no IFG of CTL", m.peek(0x160) & 1, 0);
        m.run(1, -1);
        Check.same("0: IFG of CTL", m.peek(0x160) & 1, 1);
    }

    /** "it goes down from where it is CCR0 or above, up from where it is 0, else on as it went; up at first" */
    private static void mode3UpAndDown() {
        counts("MODE 3", timer(0x230, 0, 2), 1, 2, 1, 0, 1, 2, 1, 0, 1);
        counts("MODE 3 of 1", timer(0x230, 0, 1), 1, 0, 1, 0);
        counts("MODE 3 from CCR0", timer(0x230, 2, 2), 1, 0, 1);
        counts("MODE 3 from above", timer(0x230, 5, 2), 4, 3, 2, 1, 0, 1, 2, 1);
        counts("MODE 3 from 65535", timer(0x230, 0xFFFF, 0xFFFF), 0xFFFE, 0xFFFD);
        counts("MODE 3 to 65535", timer(0x230, 0xFFFE, 0xFFFF), 0xFFFF, 0xFFFE);
        counts("MODE 3: up at first", timer(0x230, 3, 9), 4, 5);
        NapMachine m = timer(0x230, 0, 4);
        counts("up", m, 1, 2);
        Check.putWord(m, 0x172, 1);
        counts("CCR0 less: it is above", m, 1, 0, 1, 0);
        Check.putWord(m, 0x172, 5);
        counts("CCR0 more", m, 1, 2, 3, 4, 5, 4, 3);
        Check.putWord(m, 0x172, 9);
        counts("on as it went", m, 2, 1, 0, 1, 2);
        Check.putWord(m, 0x170, 8);
        counts("on as it went: up", m, 9, 8);
        Check.putWord(m, 0x170, 5);
        counts("on as it went: down", m, 4, 3);
        Check.putWord(m, 0x170, 0);
        counts("up from 0", m, 1, 2);
    }

    /** "CCR0 is 0: in 1 and 3 nothing." */
    private static void limitZeroNothing() {
        for (int mode = 1; mode <= 3; mode++) {
            for (int tar : new int[] {0, 5}) {
                NapMachine m = timer(0x200 | mode << 4, tar, 0);
                m.run(1, -1);
                boolean moves = mode == 2;
                Check.same("MODE " + mode + ": TAR", Check.word(m, 0x170), moves ? tar + 1 : tar);
                Check.same("MODE " + mode + ": no IFG of CC0", m.peek(0x162), 0);
                Check.same("MODE " + mode + ": no IFG of CTL", m.peek(0x160) & 1, 0);
            }
        }
        NapMachine m = timer(0x220, 0xFFFF, 0);
        m.run(1, -1);
        Check.same("in 2 it is one like others", m.peek(0x162), 1);
    }

    /** "Then IFG of CCk is set, if TAR is CCRk; IFG of CTL, if TAR is 0 now." */
    private static void flagsThatAreSet() {
        for (int mode = 1; mode <= 3; mode++) {
            NapMachine m = timer(0x200 | mode << 4, mode == 2 ? 0xFFFD : 0, 3);
            Check.putWord(m, 0x174, 1);
            Check.putWord(m, 0x176, 1);
            for (int k = 0; k < 9; k++) {
                for (int address = 0x162; address <= 0x166; address += 2) {
                    Check.putWord(m, address, 0x10);
                }
                m.poke(0x160, mode << 4 | 2);
                m.run(1, -1);
                int tar = Check.word(m, 0x170);
                String what = "MODE " + mode + ", TAR " + tar;
                Check.same(what + ": CC0", m.peek(0x162), tar == 3 ? 0x11 : 0x10);
                Check.same(what + ": CC1", m.peek(0x164), tar == 1 ? 0x11 : 0x10);
                Check.same(what + ": CC2", m.peek(0x166), tar == 1 ? 0x11 : 0x10);
                Check.same(what + ": CTL", m.peek(0x160), mode << 4 | 2 | (tar == 0 ? 1 : 0));
            }
        }
        NapMachine written = timer(0x220, 0, 7);
        Check.putWord(written, 0x170, 7);
        Check.same("what is written sets none", written.peek(0x162), 0);
        Check.putWord(written, 0x172, 8);
        Check.putWord(written, 0x162, 0);
        written.run(1, -1);
        Check.same("a count does", written.peek(0x162), 1);
        written.run(1, -1);
        Check.same("it stays set", written.peek(0x162), 1);
    }

    /** "SLOW one each 16th CYCLE of the machine's TIME, unless OSCOFF is set" */
    private static void slowEach16thCycle() {
        NapMachine m = timer(0x120, 0, 0);
        for (int k = 1; k <= 50; k++) {
            m.run(1, -1);
            Check.same("TIME " + k, Check.word(m, 0x170), k / 16);
        }
        m.set(2, 0x30);
        m.run(32, -1);
        Check.same("OSCOFF", Check.word(m, 0x170), 3);
        m.set(2, 0x90);
        m.run(14, -1);
        Check.same("TIME 96, SCG1", Check.word(m, 0x170), 4);
        NapMachine later = timer(0x220, 0, 0);
        later.run(10, -1);
        Check.putWord(later, 0x160, 0x124);
        later.run(5, -1);
        Check.same("TIME 15: of TIME, not of CTL", Check.word(later, 0x170), 0);
        later.run(1, -1);
        Check.same("TIME 16", Check.word(later, 0x170), 1);
        NapMachine across = Check.machine("mov &0x300,&0x302\nmov &0x300,&0x302\nmov &0x300,&0x302");
        Check.putWord(across, 0x160, 0x120);
        across.run(2, -1);
        Check.same("TIME 12", Check.word(across, 0x170), 0);
        across.run(1, -1);
        Check.same("TIME 18, in the midst of a CODE", Check.word(across, 0x170), 1);
    }

    /** "FAST has a beat each CYCLE, unless SCG1 is set" */
    private static void fastUnlessScg1() {
        NapMachine m = timer(0x220, 0, 0);
        for (int sr = 0x10; sr < 0x200; sr += 0x20) {
            int before = Check.word(m, 0x170);
            m.set(2, sr);
            m.run(5, -1);
            Check.same("SR " + sr, Check.word(m, 0x170) - before, (sr & 0x80) != 0 ? 0 : 5);
        }
        NapMachine code = Check.machine("mov &0x300,&0x302\njmp 0xc008\nreti");
        Check.putWord(code, 0x160, 0x220);
        code.run(1, -1);
        Check.same("6 CYCLES", Check.word(code, 0x170), 6);
        code.run(1, -1);
        Check.same("2 CYCLES", Check.word(code, 0x170), 8);
        code.run(1, -1);
        Check.same("5 CYCLES", Check.word(code, 0x170), 13);
    }

    /** "Then TIME goes on by its CYCLES, the beats of which come (with SR as it is then)." */
    private static void beatsWithSrAsItIsThen() {
        NapMachine m = Check.machine("mov #0x220,&0x160\nbis #0x80,sr\nnop\nbic #0x80,sr\nmov &0x170,r4\nmov #4,&0x160");
        m.run(1, -1);
        Check.same("the CODE that starts it: 5 CYCLES", Check.word(m, 0x170), 5);
        m.run(1, -1);
        Check.same("the CODE that sets SCG1", Check.word(m, 0x170), 5);
        m.run(2, -1);
        Check.same("the CODE that clears it: 2 CYCLES", Check.word(m, 0x170), 7);
        m.run(1, -1);
        Check.same("read ahead of its own CYCLES", m.register(4), 7);
        m.run(1, -1);
        Check.same("the CODE that stops it: none", Check.word(m, 0x170), 0);
        NapMachine taken = Check.machine("nop\norg 0xfff2\nword 0xd000");
        Check.putWord(taken, 0x162, 0x11);
        Check.putWord(taken, 0x160, 0x220);
        taken.set(2, 0x88);
        taken.run(1, -1);
        Check.same("an interrupt: SR is 0, 6 CYCLES", Check.word(taken, 0x170), 6);
    }

    /** "of THINGS as they are (nothing is cleared)" */
    private static void peekClearsNothing() {
        NapMachine m = new NapMachine();
        Check.putWord(m, 0x160, 3);
        Check.putWord(m, 0x164, 0x11);
        Check.putWord(m, 0x166, 0x11);
        for (int k = 0; k < 3; k++) {
            Check.same("IV", m.peek(0x12E), 2);
            Check.same("its high byte", m.peek(0x12F), 0);
            Check.same("list", Check.listed(m, 0x12E), "word 2");
        }
        Check.same("CC1", Check.word(m, 0x164), 0x11);
        Check.same("CC2", Check.word(m, 0x166), 0x11);
        Check.same("CTL", Check.word(m, 0x160), 3);
    }
}
