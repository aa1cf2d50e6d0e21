/** Promises 7 (reset), 8 (event), 9 (run), 14 (count): STEPS, interrupts, naps, events. */
final class RunTest {
    public static void main(String[] args) {
        stopping();
        wrongArguments();
        reset();
        resetOfHiddenThings();
        timerGoesUpAgain();
        eventLimits();
        eventsInOrder();
        portWakes();
        firstRequest();
        order();
        timerVectorRequests();
        naps();
        codesInThings();
        counts();
        Check.finish();
    }

    private static void stopping() {
        NapMachine m = Check.machine("nop\nnop\njmp 0xc000\nword 0");
        Check.same("run(0)", m.run(0, 0xC000), 0);
        Check.same("STEPS", m.count(1), 0);
        Check.same("as far as 1 STEP was done", m.run(100, 0xC000), 1);
        Check.same("STEPS", m.count(1), 3);
        Check.same("all", m.run(5, -1), 0);
        Check.same("STEPS", m.count(1), 5);
        Check.same("PC", m.register(0), 0xC004);
        Check.same("at the last STEP", m.run(1, 0xC000), 1);
        Check.same("an odd place", m.run(50, 0xC001), 0);
        Check.same("far away", m.run(50, 0xC000 + 65536), 0);
        Check.same("5000 STEPS", m.run(5000, -1), 0);
        Check.same("STEPS", m.count(1), 5000);
        m.set(0, 0xC006);
        Check.same("HALT", m.run(9, 0xC006), 2);
        Check.same("no STEP", m.count(1), 0);
        m.set(0, 0xC004);
        Check.putWord(m, 0xC004, 0x4303);
        Check.same("a STEP, then HALT", m.run(9, -1), 2);
        Check.same("one STEP", m.count(1), 1);
        Check.same("PC stays", m.register(0), 0xC006);
        m.set(0, 0xC004);
        Check.same("HALT is not looked for behind all", m.run(1, -1), 0);
    }

    private static void wrongArguments() {
        NapMachine m = Check.machine("nop\nnop");
        m.event(0, 1);
        m.run(1, -1);
        Check.throwsArgument("run(-1)", () -> m.run(-1, -1));
        Check.throwsArgument("run(5001)", () -> m.run(5001, -1));
        Check.throwsArgument("run(min)", () -> m.run(Integer.MIN_VALUE, -1));
        Check.same("STEPS of the latest run", m.count(1), 1);
        Check.same("TIME", m.count(0), 1);
        Check.same("PC", m.register(0), 0xC002);
    }

    private static void reset() {
        NapMachine m = Check.machine("a:nop\norg 0xfffe\nword 0xc003\norg 0x200\nbyte 7");
        m.list(0xC000);
        m.poke(0x21, 3);
        m.poke(0x25, 3);
        Check.putWord(m, 0x160, 0x3F3);
        Check.putWord(m, 0x170, 5);
        Check.putWord(m, 0x172, 5);
        Check.putWord(m, 0x132, 5);
        Check.putWord(m, 0x138, 5);
        m.set(4, 4);
        m.event(50, 5);
        m.run(1, -1);
        Check.feed(m, "abc");
        m.reset();
        for (int address = 0; address < 0x200; address++) {
            Check.same("a THING", m.peek(address), 0);
        }
        Check.same("PC is the word at 0xfffe, even", m.register(0), 0xC002);
        for (int r = 1; r < 16; r++) {
            Check.same("a REGISTER", m.register(r), 0);
        }
        Check.same("memory stays", m.peek(0x200), 7);
        Check.same("TIME", m.count(0), 0);
        Check.same("interrupts", m.count(2), 0);
        Check.same("naps", m.count(3), 0);
        Check.same("events", m.count(4), 0);
        Check.same("the tape stays", m.count(5), 3);
        Check.same("OUT stays", m.count(6), 9);
        Check.same("labels stay", m.label(0), 0xC000);
        Check.putWord(m, 0x138, 0xFFFF);
        Check.putWord(m, 0x130, 0xFFFF);
        Check.same("no factor", Check.word(m, 0x13A), 0);
        Check.same("an event at 0", m.event(0, 1), 1);
    }

    private static void resetOfHiddenThings() {
        NapMachine m = Check.machine("mov #0x18,sr\norg 0xffe4\nword 0xd000\norg 0xd000\nmov #0x10,sr");
        m.poke(0x24, 0x0F);
        m.poke(0x25, 0xF0);
        m.event(5, 0xF0);
        Check.putWord(m, 0x13C, 7);
        Check.putWord(m, 0x132, 0xFFFF);
        Check.putWord(m, 0x138, 1);
        for (int address = 0x162; address <= 0x166; address += 2) {
            Check.putWord(m, address, 0x11);
        }
        Check.putWord(m, 0x162, 0);
        Check.putWord(m, 0x164, 0);
        Check.putWord(m, 0x166, 1);
        Check.putWord(m, 0x172, 4);
        Check.putWord(m, 0x160, 0x230);
        m.run(20, -1);
        Check.same("an interrupt", m.count(2), 1);
        Check.same("naps", m.count(3) > 5, true);
        Check.same("IFG of the PORT", m.peek(0x23), 0xF0);
        Check.same("IN", m.peek(0x20), 0xF0);
        Check.same("IFG of CC0", Check.word(m, 0x162), 1);
        m.reset();
        Check.same("no interrupt", m.count(2), 0);
        Check.same("no nap", m.count(3), 0);
        for (int address = 0; address < 0x200; address++) {
            Check.same("a THING", m.peek(address), 0);
        }
        Check.putWord(m, 0x138, 0xFFFF);
        Check.same("no sign is left", Check.word(m, 0x13E), 0);
        Check.putWord(m, 0x130, 0xFFFF);
        Check.putWord(m, 0x138, 1);
        Check.same("none of the product", Check.word(m, 0x13C), 0);
        Check.putWord(m, 0x134, 1);
        m.reset();
        Check.putWord(m, 0x13A, 7);
        Check.putWord(m, 0x138, 1);
        Check.same("none is to be added", Check.word(m, 0x13A), 0);
    }

    /** The timer goes down, when it is written or reset; then it goes up. */
    private static void timerGoesUpAgain() {
        for (int way = 0; way < 3; way++) {
            NapMachine m = new NapMachine();
            m.set(2, 0x10);
            Check.putWord(m, 0x172, 6);
            Check.putWord(m, 0x160, 0x230);
            m.run(9, -1);
            Check.same("it goes down", Check.word(m, 0x170), 3);
            if (way == 1) {
                m.poke(0x160, 0x34);
            } else if (way == 2) {
                m.reset();
                m.set(2, 0x10);
                Check.putWord(m, 0x172, 6);
                Check.putWord(m, 0x160, 0x230);
            }
            Check.putWord(m, 0x170, 3);
            m.run(1, -1);
            Check.same("on as it went, or up at first", Check.word(m, 0x170), way == 0 ? 2 : 4);
        }
    }

    private static void eventLimits() {
        NapMachine m = Check.machine("nop\nnop\nnop\nnop");
        m.run(2, -1);
        Check.same("before TIME", m.event(1, 1), -1);
        Check.same("far below 0", m.event(Integer.MIN_VALUE, 1), -1);
        Check.same("in is -1", m.event(5, -1), -1);
        Check.same("in is 256", m.event(5, 256), -1);
        Check.same("none waits", m.count(4), 0);
        Check.same("at TIME", m.event(2, 255), 1);
        Check.same("later", m.event(10, 0), 2);
        Check.same("earlier than the latest", m.event(9, 1), -1);
        Check.same("with the latest", m.event(10, 1), 3);
        for (int k = 4; k <= 40; k++) {
            Check.same("more", m.event(Integer.MAX_VALUE, k), k);
        }
        Check.same("a 41st", m.event(Integer.MAX_VALUE, 1), -1);
        Check.same("forty wait", m.count(4), 40);
        m.run(1, -1);
        Check.same("one was due", m.count(4), 39);
        Check.same("room again", m.event(Integer.MAX_VALUE, 1), 40);
    }

    private static void eventsInOrder() {
        NapMachine m = Check.machine("nop\nnop\nnop\nnop\nnop");
        m.event(0, 1);
        m.event(0, 2);
        m.event(2, 4);
        m.event(3, 0);
        m.run(1, -1);
        Check.same("IN", m.peek(0x20), 2);
        Check.same("each change counts", m.peek(0x23), 3);
        m.run(1, -1);
        Check.same("not yet", m.peek(0x20), 2);
        m.run(1, -1);
        Check.same("at its TIME", m.peek(0x20), 4);
        Check.same("one waits", m.count(4), 1);
        Check.same("none comes without a STEP", m.run(0, -1), 0);
        Check.same("one waits", m.count(4), 1);
        NapMachine halted = new NapMachine();
        halted.event(0, 9);
        Check.same("HALT", halted.run(1, -1), 2);
        Check.same("events come first", halted.peek(0x20), 9);
    }

    private static void portWakes() {
        NapMachine m = Check.machine("mov #0x18,sr\nnop\norg 0xd000\nnop\nbic.b #-1,&0x23\nreti\norg 0xffe4\nword 0xd001");
        m.poke(0x25, 2);
        m.event(6, 1);
        m.event(9, 3);
        m.run(1, -1);
        Check.same("2 CYCLES", m.count(0), 2);
        m.run(4, -1);
        Check.same("it naps", m.register(0), 0xC004);
        m.run(3, -1);
        Check.same("IE's bit alone wakes", m.register(0), 0xC004);
        Check.same("7 CYCLES napped", m.count(3), 7);
        Check.same("TIME", m.count(0), 9);
        m.run(1, -1);
        Check.same("taken", m.register(0), 0xD000);
        Check.same("SR is 0", m.register(2), 0);
        Check.same("6 CYCLES", m.count(0), 15);
        Check.same("one", m.count(2), 1);
        Check.same("PC is pushed", Check.word(m, 0x3FE), 0xC004);
        Check.same("SR is pushed", Check.word(m, 0x3FC), 0x18);
        Check.same("SP", m.register(1), 0x3FC);
        Check.same("IFG stays", m.peek(0x23), 3);
        m.run(3, -1);
        Check.same("back", m.register(0), 0xC004);
        Check.same("SR again", m.register(2), 0x18);
        m.run(10, -1);
        Check.same("it naps again", m.register(0), 0xC004);
        Check.same("17 CYCLES", m.count(3), 17);
    }

    private static void firstRequest() {
        NapMachine m = Check.machine("nop\nnop\norg 0xfff2\nword 0xd000");
        Check.putWord(m, 0x162, 0x11);
        m.run(1, -1);
        Check.same("without GIE none is taken", m.count(2), 0);
        m.set(2, 0x107);
        m.set(0, 0xC000);
        m.run(1, -1);
        Check.same("nor with other flags", m.count(2), 0);
        m.set(2, 8);
        m.run(1, 0xD000);
        Check.same("taken", m.register(0), 0xD000);
        Check.same("its IFG is cleared", Check.word(m, 0x162), 0x10);
        Check.same("no CODE was done", Check.word(m, 0x3FE), 0xC002);
    }

    private static void order() {
        NapMachine m = Check.machine("org 0xfff2\nword 0xd000\norg 0xfff0\nword 0xd100\norg 0xffe4\nword 0xd200");
        Check.putWord(m, 0x162, 0x11);
        Check.putWord(m, 0x164, 0x11);
        m.poke(0x23, 1);
        m.poke(0x25, 1);
        m.set(2, 8);
        m.run(1, -1);
        Check.same("CC0 first", m.register(0), 0xD000);
        m.set(2, 8);
        m.run(1, -1);
        Check.same("CC1 then", m.register(0), 0xD100);
        Check.same("its IFG stays", Check.word(m, 0x164), 0x11);
        Check.putWord(m, 0x12E, 0);
        m.set(2, 8);
        m.run(1, -1);
        Check.same("the PORT last", m.register(0), 0xD200);
        Check.same("three", m.count(2), 3);
        m.poke(0x25, 2);
        m.set(2, 8);
        Check.same("none asks", m.run(1, -1), 2);
    }

    private static void timerVectorRequests() {
        int[][] asking = {{0x164, 0x11}, {0x166, 0x11}, {0x160, 3}};
        for (int[] one : asking) {
            for (int bits = 0; bits < 4; bits++) {
                NapMachine m = Check.machine("nop\norg 0xfff0\nword 0xd100");
                boolean flag = (bits & 1) != 0;
                boolean enable = (bits & 2) != 0;
                Check.putWord(m, one[0], (flag ? 1 : 0) | (enable ? one[1] & ~1 : 0));
                m.set(2, 8);
                m.run(1, -1);
                Check.same(one[0] + " by " + bits, m.register(0), flag && enable ? 0xD100 : 0xC002);
            }
        }
    }

    private static void naps() {
        String text = "mov #5,&0x172\nmov #0x10,&0x162\nmov #0x214,&0x160\nmov #0x18,sr\nnop\norg 0xd000\n"
            + "bic #0x10,0(sp)\nreti\norg 0xfff2\nword 0xd000";
        NapMachine m = Check.machine(text);
        m.run(3, -1);
        Check.same("TAR after 5 beats", Check.word(m, 0x170), 5);
        Check.same("IFG", Check.word(m, 0x162), 0x11);
        m.run(2, -1);
        Check.same("taken behind the CODE that sets GIE", m.register(0), 0xD000);
        Check.same("no nap", m.count(3), 0);
        m.run(2, -1);
        Check.same("woken", m.register(0), 0xC016);
        Check.same("GIE alone", m.register(2), 8);
        NapMachine asleep = Check.machine("mov #0x10,sr\nnop");
        asleep.poke(0x25, 1);
        asleep.event(3, 1);
        asleep.run(20, -1);
        Check.same("without GIE nothing wakes it", asleep.register(0), 0xC004);
        Check.same("19 CYCLES", asleep.count(3), 19);
        Check.same("PC is there, while it naps", asleep.run(9, 0xC004), 1);
        Check.same("one STEP", asleep.count(1), 1);
    }

    private static void codesInThings() {
        NapMachine m = new NapMachine();
        Check.putWord(m, 0x130, 0x4034);
        Check.putWord(m, 0x164, 0x11);
        m.set(0, 0x130);
        Check.same("a CODE in the multiplier", m.run(1, -1), 0);
        Check.same("its #", m.register(4), 0x4034);
        m.set(0, 0x12E);
        Check.same("HALT at IV", m.run(1, -1), 2);
        Check.same("nothing is read", Check.word(m, 0x164), 0x11);
        Check.same("a new one", m.event(9, 1), 1);
    }

    private static void counts() {
        NapMachine m = Check.machine("nop");
        for (int what : new int[] {-1, 8, Integer.MAX_VALUE, Integer.MIN_VALUE}) {
            Check.same("count(" + what + ")", m.count(what), -1);
        }
        m.feed(1, 1, 1, 1, 1);
        m.event(9, 9);
        m.run(1, -1);
        int[] due = {1, 1, 0, 0, 1, 20, 0, 0};
        for (int what = 0; what < due.length; what++) {
            Check.same("count(" + what + ")", m.count(what), due[what]);
        }
    }
}
