/**
 * The edges that the sections "Promise 1" to "Promise 16" name, one method a sentence, and "A call that throws changes
 * nothing."; a refused call changes nothing either.
 */
final class CallEdgesTest {
    private static final int LEAST = Integer.MIN_VALUE;
    private static final int MOST = Integer.MAX_VALUE;

    public static void main(String[] args) {
        allIsZeroAtFirst();
        twentyBytesHighestFirst();
        noneComeBeyond2600();
        firstBytesAlone();
        falseIfNotSoMany();
        theTapeIsEmptyThen();
        nothingComesOfAFault();
        nothingElseIsChanged();
        bytesComeToThingsAsByPoke();
        kindOfTheLatestFault();
        textsAbove2500Bytes();
        labelsOfTheLatestGoodText();
        resetLeavesMemoryFrom0x200();
        resetTakesTheEvenWordAtTheEnd();
        refusedEvents();
        eventsAtThisOrLater();
        stepsFrom0To5000();
        placesThatEndARun();
        noSuchRegister();
        setIsAsByAnInstruction();
        noSuchAddress();
        valuesThatAreNoByte();
        countsOfOtherThings();
        countsOfEach();
        noSuchByteOfOut();
        callsThatThrowChangeNothing();
        refusedCallsChangeNothing();
        Check.finish();
    }

    /** "All 0, no events, an empty tape." */
    private static void allIsZeroAtFirst() {
        NapMachine m = new NapMachine();
        for (int what = 0; what < 8; what++) {
            Check.same("count(" + what + ") at first", m.count(what), 0);
        }
        for (int r = 0; r < 16; r++) {
            Check.same("register(" + r + ") at first", m.register(r), 0);
        }
        for (int address = 0; address < 0x200; address++) {
            Check.same("THING " + address + " at first", m.peek(address), 0);
        }
        for (int address : new int[] {0x200, 0xBFFF, 0xC000, 0xFFFE, 0xFFFF}) {
            Check.same("memory " + address + " at first", m.peek(address), 0);
        }
        Check.same("an empty tape has no first byte", m.end(1), false);
        Check.same("no LABEL", m.label(0), -1);
        Check.same("no FAULT", m.fault(), 0);
        Check.throwsNoElement("no byte of OUT", () -> m.octet(0));
        Check.same("HALT at 0", m.run(5000, -1), 2);
        Check.same("no event came", m.peek(0x20), 0);
        NapMachine signed = new NapMachine();
        Check.putWord(signed, 0x138, 0xFFFF);
        Check.same("the multiplier's factor is 0", Check.word(signed, 0x13A), 0);
        signed.set(2, 0x10);
        signed.run(100, -1);
        Check.same("the timer stands", Check.word(signed, 0x170), 0);
    }

    /** "Twenty bytes come behind the tape, of each number the highest first: how many it has" */
    private static void twentyBytesHighestFirst() {
        NapMachine m = new NapMachine();
        // "byte 1,2,3,4,5,6,7,8" and ",9 ;" with bytes that count for nothing
        Check.same("feed", m.feed(0x62797465, 0x20312C32, 0x2C332C34, 0x2C352C36, 0x2C372C38), 20);
        Check.same("feed", m.feed(0x2C39203B, -1, 0, LEAST, MOST), 40);
        Check.same("how many it has", m.count(5), 40);
        Check.same("nine bytes", m.assemble(), 9);
        for (int k = 0; k < 9; k++) {
            Check.same("byte " + k, m.peek(0xC000 + k), k + 1);
        }
        Check.same("a first byte above 127 is no TOKEN", m.feed(0x80000000, 0, 0, 0, 0), 20);
        Check.same("at it", m.assemble(), -1);
        Check.same("feed", m.feed(0x206E6F70, 0xFF000000, 0, 0, 0), 20);
        Check.same("the highest byte of the second number is the fifth", m.assemble(), -5);
    }

    /** "NONE, and none come, if it would have more than 2600" */
    private static void noneComeBeyond2600() {
        for (int length : new int[] {2579, 2580, 2581, 2599, 2600}) {
            NapMachine m = new NapMachine();
            for (int k = 0; k < 130; k++) {
                m.feed(0x3B202020, 0x20202020, 0x20202020, 0x20202020, 0x2020200A);
            }
            m.end(length);
            int due = length <= 2580 ? length + 20 : -1;
            Check.same("feed behind " + length, m.feed(0x24242424, 0x24242424, 0x24242424, 0x24242424, 0x24242424), due);
            Check.same("bytes of the tape", m.count(5), due == -1 ? length : due);
            m.end(2500);
            Check.same("the first 2500 are as they were", m.assemble(), 0);
        }
    }

    /** "The tape has its first n bytes alone: true" */
    private static void firstBytesAlone() {
        NapMachine m = new NapMachine();
        Check.feed(m, "byte 1,2,3");
        Check.same("end(10) of 10", m.end(10), true);
        Check.same("end(8)", m.end(8), true);
        Check.same("bytes of the tape", m.count(5), 8);
        Check.same("end(9) of 8", m.end(9), false);
        m.feed(0x2C390A00, 0, 0, 0, 0);
        m.end(10);
        Check.same("what comes behind them", m.assemble(), 3);
        Check.same("the third", m.peek(0xC002), 9);
        Check.feed(m, "nop");
        Check.same("end(0)", m.end(0), true);
        Check.same("nothing is left", m.assemble(), 0);
    }

    /** "false, if it has not so many, or n is below 0" */
    private static void falseIfNotSoMany() {
        NapMachine m = new NapMachine();
        Check.same("end(0) of none", m.end(0), true);
        Check.feed(m, "nop");
        for (int n : new int[] {-1, 4, 20, 2600, LEAST, MOST}) {
            Check.same("end(" + n + ") of 3", m.end(n), false);
            Check.same("the tape stays", m.count(5), 3);
        }
        Check.same("it is as it was", m.assemble(), 2);
    }

    /** "The tape (empty then) is a text" */
    private static void theTapeIsEmptyThen() {
        NapMachine m = new NapMachine();
        String[] texts = {"nop", "$", "jmp x", "", " ".repeat(2501)};
        int[] answers = {2, -1, -5, 0, -2501};
        for (int k = 0; k < texts.length; k++) {
            Check.same("assemble", Check.assemble(m, texts[k]), answers[k]);
            Check.same("the tape is empty", m.count(5), 0);
            Check.same("again: an empty text", m.assemble(), 0);
            Check.same("without a FAULT", m.fault(), 0);
        }
    }

    /** "-1 - the place of its FAULT: nothing comes" */
    private static void nothingComesOfAFault() {
        String start = "org 0x21\nbyte 7\norg 0x300\nl: word 1,2\norg 0x138\nword 5\n";
        String[] faults = {"$", "word 70000", "l", "jmp x", "jmp 1"};
        int[] places = {0, 5, 0, 4, 4};
        for (int k = 0; k < faults.length; k++) {
            NapMachine m = new NapMachine();
            m.poke(0x21, 3);
            Check.same(faults[k], Check.assemble(m, start + faults[k]), -1 - start.length() - places[k]);
            Check.same("its kind", m.fault(), k + 1);
            Check.same("OUT stays", m.peek(0x21), 3);
            Check.same("memory stays", Check.word(m, 0x300), 0);
            Check.same("no factor came", Check.word(m, 0x138), 0);
            Check.same("no LABEL", m.label(3), -1);
        }
    }

    /** "nothing else is changed" */
    private static void nothingElseIsChanged() {
        NapMachine m = rich();
        NapMachine twin = rich();
        m.end(0);
        twin.end(0);
        String before = Check.state(m);
        Check.same("an empty text", m.assemble(), 0);
        Check.same("has no LABELS; all else stays", withoutLabels(Check.state(m)), withoutLabels(before));
        Check.assemble(m, "org 0x700\nbyte 1,2,3");
        for (int k = 0; k < 3; k++) {
            twin.poke(0x700 + k, k + 1);
        }
        Check.same("three bytes alone came", withoutLabels(Check.state(m)), withoutLabels(Check.state(twin)));
        goOn(m);
        goOn(twin);
        Check.same("later on", withoutLabels(Check.state(m)), withoutLabels(Check.state(twin)));
    }

    private static String withoutLabels(String state) {
        return state.replaceAll("fault [0-9]", "").replaceAll("labels[-0-9 ]*", "");
    }

    /** "its bytes come to memory (one behind the other, to THINGS as by poke())" */
    private static void bytesComeToThingsAsByPoke() {
        NapMachine m = new NapMachine();
        Check.assemble(m, "org 0x134\nword 3\norg 0x138\nword 0x102\norg 0x20\nbyte 1,2,3,4,5,6,7\norg 0x1ff\nbyte 8,9");
        Check.same("added by each byte of the second factor", Check.word(m, 0x13A), 3 * 2 + 3 * 0x102);
        int[] due = {0, 2, 0, 4, 5, 6, 0};
        for (int k = 0; k < due.length; k++) {
            Check.same("byte " + k + " of the PORT", m.peek(0x20 + k), due[k]);
        }
        Check.same("0x1ff stays 0", m.peek(0x1FF), 0);
        Check.same("0x200 is memory", m.peek(0x200), 9);
        Check.same("a place twice: the later one", Check.assemble(m, "word 0x1111\norg 0xc000\nbyte 2"), 3);
        Check.same("the word", Check.word(m, 0xC000), 0x1102);
    }

    /** "The kind of the FAULT of the latest assemble(); 0 without one and ahead of any" */
    private static void kindOfTheLatestFault() {
        NapMachine m = new NapMachine();
        Check.same("ahead of any", m.fault(), 0);
        Check.feed(m, "$");
        Check.same("ahead of assemble()", m.fault(), 0);
        m.assemble();
        Check.same("no TOKEN", m.fault(), 1);
        Check.feed(m, "nop");
        Check.same("till the next one", m.fault(), 1);
        m.reset();
        m.run(1, -1);
        Check.same("reset() and run() are none", m.fault(), 1);
        m.assemble();
        Check.same("without one", m.fault(), 0);
    }

    /** "(6: the text has more than 2500 bytes, place 2500)" */
    private static void textsAbove2500Bytes() {
        for (int length : new int[] {2499, 2500, 2501, 2600}) {
            for (String start : new String[] {"nop ;", "$"}) {
                NapMachine m = new NapMachine();
                int answer = Check.assemble(m, start + " ".repeat(length - start.length()));
                boolean bad = start.equals("$");
                Check.same(length + " bytes", answer, length > 2500 ? -2501 : bad ? -1 : 2);
                Check.same("its kind", m.fault(), length > 2500 ? 6 : bad ? 1 : 0);
            }
        }
        NapMachine m = new NapMachine();
        Check.assemble(m, "a: nop");
        Check.assemble(m, "b: nop\nc: nop" + " ".repeat(2500));
        Check.same("the latest good text's LABEL", m.label(0), 0xC000);
        Check.same("it has one alone", m.label(1), -1);
    }

    /** "What a LABEL is in the latest text without a FAULT: .. its LINE number line (from 0 on) ..; NONE without it" */
    private static void labelsOfTheLatestGoodText() {
        NapMachine m = new NapMachine();
        Check.same("ahead of any", m.label(0), -1);
        Check.assemble(m, "nop\nz: nop\n\n nop\ny:\nx:byte 1");
        int[] due = {-1, 0xC002, -1, -1, 0xC006, 0xC006, -1};
        for (int line = 0; line < due.length; line++) {
            Check.same("LINE " + line, m.label(line), due[line]);
        }
        for (int line : new int[] {-1, LEAST, MOST, 2500}) {
            Check.same("LINE " + line, m.label(line), -1);
        }
        Check.assemble(m, "q: nop\nw: nop\njmp nowhere");
        Check.same("a FAULT leaves them", m.label(1), 0xC002);
        m.reset();
        Check.same("so does reset()", m.label(4), 0xC006);
        m.assemble();
        Check.same("an empty text has none", m.label(1), -1);
        Check.assemble(m, "\n".repeat(2496) + "a:b");
        Check.same("a FAULT in the last LINE", m.fault(), 1);
        Check.assemble(m, "\n".repeat(2498) + "a:");
        Check.same("the last LINE of 2500 bytes", m.label(2498), 0xC000);
    }

    /** "All 0 but memory from 0x200 on; TIME 0, no events" */
    private static void resetLeavesMemoryFrom0x200() {
        NapMachine m = rich();
        int[] memory = new int[65536];
        for (int address = 0x200; address < 65536; address++) {
            memory[address] = m.peek(address);
        }
        m.reset();
        int wrong = 0;
        for (int address = 0; address < 65536; address++) {
            wrong += m.peek(address) == memory[address] ? 0 : 1;
        }
        Check.same("bytes that are not as due", wrong, 0);
        for (int r = 1; r < 16; r++) {
            Check.same("register(" + r + ")", m.register(r), 0);
        }
        for (int what : new int[] {0, 2, 3, 4}) {
            Check.same("count(" + what + ")", m.count(what), 0);
        }
        m.set(0, 0xC000);
        m.run(60, -1);
        Check.same("no event comes", m.peek(0x20), 0);
        NapMachine fresh = new NapMachine();
        NapMachine used = rich();
        used.reset();
        for (NapMachine one : new NapMachine[] {fresh, used}) {
            one.set(2, 0x10);
            Check.putWord(one, 0x172, 5);
            Check.putWord(one, 0x170, 3);
            Check.putWord(one, 0x160, 0x2B0);
            one.run(9, -1);
        }
        Check.same("no beat, no way is left", Check.word(used, 0x170), Check.word(fresh, 0x170));
    }

    /** "PC is the word at 0xFFFE" */
    private static void resetTakesTheEvenWordAtTheEnd() {
        int[] words = {0, 1, 0xC000, 0xC001, 0xFFFF};
        for (int word : words) {
            NapMachine m = new NapMachine();
            Check.putWord(m, 0xFFFE, word);
            m.set(0, 0x1234);
            m.reset();
            Check.same("PC of " + word, m.register(0), word & 0xFFFE);
        }
    }

    /** "NONE, if there are 40, it is earlier than the latest one that waits, or before TIME, or in is not 0 .. 255" */
    private static void refusedEvents() {
        NapMachine m = Check.machine("a: jmp a");
        m.run(5, -1);
        Check.same("before TIME", m.event(9, 1), -1);
        Check.same("at TIME", m.event(10, 0), 1);
        Check.same("in is -1", m.event(10, -1), -1);
        Check.same("in is 256", m.event(10, 256), -1);
        Check.same("in is least", m.event(10, LEAST), -1);
        Check.same("in is most", m.event(10, MOST), -1);
        Check.same("in is 255", m.event(20, 255), 2);
        Check.same("earlier than the latest", m.event(19, 1), -1);
        Check.same("with the latest", m.event(20, 3), 3);
        for (int k = 4; k <= 40; k++) {
            Check.same("event " + k, m.event(30, k), k);
        }
        Check.same("there are 40", m.event(30, 1), -1);
        Check.same("40 wait", m.count(4), 40);
        m.run(1, -1);
        Check.same("39 wait", m.count(4), 39);
        Check.same("room again", m.event(30, 77), 40);
        Check.same("there are 40", m.event(40, 78), -1);
        m.run(20, -1);
        Check.same("the last that was taken", m.peek(0x20), 77);
        Check.same("none waits", m.count(4), 0);
        Check.same("TIME alone counts then", m.event(m.count(0), 1), 1);
        Check.same("the last time of all", m.event(MOST, 1), 2);
        Check.same("the least", m.event(LEAST, 1), -1);
    }

    /** "At TIME (this or later) IN is that" */
    private static void eventsAtThisOrLater() {
        NapMachine m = Check.machine("mov #1,&0x300\nmov #1,&0x300\nnop\nnop");
        m.event(4, 1);
        m.event(6, 2);
        m.event(9, 4);
        int[] in = {0, 1, 2, 4};
        int[] times = {4, 8, 9, 10};
        for (int k = 0; k < 4; k++) {
            m.run(1, -1);
            Check.same("TIME behind STEP " + k, m.count(0), times[k]);
            Check.same("IN in STEP " + k, m.peek(0x20), in[k]);
            Check.same("events that wait", m.count(4), 3 - k);
        }
    }

    /** "At most n STEPS (0 to 5000) .. IllegalArgumentException: n is not as told." */
    private static void stepsFrom0To5000() {
        NapMachine m = Check.machine("a: jmp a");
        for (int n : new int[] {-1, 5001, LEAST, MOST}) {
            Check.throwsArgument("run(" + n + ")", () -> m.run(n, -1));
            Check.throwsArgument("run(" + n + ") to a place", () -> m.run(n, 0xC000));
        }
        Check.same("none was done", m.count(0), 0);
        for (int n : new int[] {5000, 4999, 1, 0}) {
            int time = m.count(0);
            Check.same("run(" + n + ")", m.run(n, -1), 0);
            Check.same("STEPS", m.count(1), n);
            Check.same("CYCLES", m.count(0) - time, 2 * n);
        }
    }

    /** "till HALT or PC is at (as far as 1 STEP was done; NONE: anywhere): 0 all, 1 PC is there, 2 HALT" */
    private static void placesThatEndARun() {
        NapMachine m = Check.machine("nop\nnop\nnop\nword 0");
        Check.same("PC is there already, no STEP", m.run(0, 0xC000), 0);
        Check.same("PC is there at the last STEP", m.run(1, 0xC002), 1);
        Check.same("STEPS", m.count(1), 1);
        Check.same("one STEP less", m.run(1, 0xC006), 0);
        Check.same("PC is at HALT's place", m.run(9, 0xC006), 1);
        Check.same("HALT ahead of the first STEP", m.run(9, 0xC006), 2);
        Check.same("no STEP", m.count(1), 0);
        m.set(0, 0xC000);
        Check.same("HALT behind three", m.run(9, -1), 2);
        Check.same("STEPS", m.count(1), 3);
        m.set(0, 0xC000);
        Check.same("three alone", m.run(3, -1), 0);
        m.set(0, 0xC000);
        for (int at : new int[] {-2, LEAST, MOST, 0x1C002, 0xC003}) {
            m.set(0, 0xC000);
            Check.same("PC is never " + at, m.run(3, at), 0);
        }
        NapMachine again = Check.machine("a: jmp a");
        Check.same("where it began, behind 1 STEP", again.run(9, 0xC000), 1);
        Check.same("STEPS", again.count(1), 1);
        NapMachine wraps = new NapMachine();
        Check.putWord(wraps, 0xFFFE, 0x4303);
        wraps.set(0, 0xFFFE);
        Check.same("PC is 0", wraps.run(9, 0), 1);
    }

    /** "IndexOutOfBoundsException: there is none such" */
    private static void noSuchRegister() {
        NapMachine m = new NapMachine();
        for (int r : new int[] {-1, 16, LEAST, MOST}) {
            Check.throwsIndex("register(" + r + ")", () -> m.register(r));
            Check.throwsIndex("set(" + r + ", 1)", () -> m.set(r, 1));
        }
        m.set(15, 7);
        Check.same("register(15)", m.register(15), 7);
    }

    /** "REGISTER r is written (as by an instruction)." */
    private static void setIsAsByAnInstruction() {
        int[] values = {0, 1, -1, 0xFFFF, 0x10000, 0x1FFFF, LEAST, MOST, 0x155, 0xFE00};
        for (int value : values) {
            NapMachine m = new NapMachine();
            for (int r = 0; r < 16; r++) {
                m.set(r, value);
            }
            for (int r = 0; r < 16; r++) {
                int due = r < 2 ? value & 0xFFFE : r == 2 ? value & 0x1FF : r == 3 ? 0 : value & 0xFFFF;
                Check.same("set(" + r + ", " + value + ")", m.register(r), due);
            }
        }
    }

    /** "IndexOutOfBoundsException: there is none such (here and below)" of addresses. */
    private static void noSuchAddress() {
        NapMachine m = new NapMachine();
        for (int address : new int[] {-1, 65536, LEAST, MOST}) {
            Check.throwsIndex("peek(" + address + ")", () -> m.peek(address));
            Check.throwsIndex("poke(" + address + ", 1)", () -> m.poke(address, 1));
            Check.throwsIndex("list(" + address + ")", () -> m.list(address));
        }
        Check.same("poke(65535, 9)", m.poke(65535, 9), true);
        Check.same("peek(65535)", m.peek(65535), 9);
        Check.same("list(65535)", m.list(65535), 9);
        Check.same("poke(0, 9)", m.poke(0, 9), true);
        Check.same("peek(0)", m.peek(0), 0);
        Check.same("list(0)", m.list(0), 6);
    }

    /** "false, if value is not 0 .. 255" */
    private static void valuesThatAreNoByte() {
        NapMachine m = new NapMachine();
        for (int address : new int[] {0x21, 0x25, 0x12E, 0x138, 0x160, 0x200, 0xFFFF}) {
            Check.same("poke 5", m.poke(address, 5), true);
        }
        Check.putWord(m, 0x164, 0x11);
        String before = Check.state(m);
        for (int address : new int[] {0, 0x20, 0x21, 0x25, 0x12E, 0x138, 0x160, 0x200, 0xFFFF}) {
            for (int value : new int[] {-1, 256, 0x105, LEAST, MOST}) {
                Check.same("poke(" + address + ", " + value + ")", m.poke(address, value), false);
            }
        }
        Check.same("nothing was written", Check.state(m), before);
        Check.same("poke 0", m.poke(0xFFFF, 0), true);
        Check.same("0", m.peek(0xFFFF), 0);
        Check.same("poke 255", m.poke(0xFFFF, 255), true);
        Check.same("255", m.peek(0xFFFF), 255);
    }

    /** "NONE for another what" */
    private static void countsOfOtherThings() {
        NapMachine m = rich();
        for (int what : new int[] {-1, 8, 9, LEAST, MOST}) {
            Check.same("count(" + what + ")", m.count(what), -1);
        }
    }

    /** "0 TIME, 1 STEPS of the latest run(), 2 interrupts .., 7 the address behind what list() told latest (0 ..)" */
    private static void countsOfEach() {
        NapMachine m = Check.machine("mov #0x18,sr\norg 0xffe4\nword 0xd000\norg 0xd000\nmov &0x300,&0x302");
        m.poke(0x25, 1);
        m.event(5, 1);
        m.event(500, 1);
        m.feed(1, 2, 3, 4, 5);
        Check.same("ahead of list()", m.count(7), 0);
        m.list(0xD000);
        Check.same("run", m.run(6, -1), 0);
        int[] due = {2 + 3 + 6 + 6, 6, 1, 3, 1, 20, "mov &768,&770".length(), 0xD006};
        for (int what = 0; what < 8; what++) {
            Check.same("count(" + what + ")", m.count(what), due[what]);
        }
        m.list(0xFFFF);
        Check.same("behind 0xffff", m.count(7), 0);
        m.reset();
        int[] then = {0, 6, 0, 0, 0, 20, 6, 0};
        for (int what = 0; what < 8; what++) {
            Check.same("count(" + what + ") behind reset()", m.count(what), then[what]);
        }
    }

    /** "NoSuchElementException: there is none such." */
    private static void noSuchByteOfOut() {
        NapMachine m = Check.machine("mov &0x300,&0x302\nreti");
        Check.throwsNoElement("octet(0) ahead of list()", () -> m.octet(0));
        for (int address : new int[] {0xC000, 0xC006}) {
            int length = m.list(address);
            Check.same("count(6)", m.count(6), length);
            Check.same("the first", m.octet(0), address == 0xC000 ? 'm' : 'r');
            Check.same("the last", m.octet(length - 1), address == 0xC000 ? '0' : 'i');
            for (int k : new int[] {-1, length, length + 1, LEAST, MOST}) {
                Check.throwsNoElement("octet(" + k + ")", () -> m.octet(k));
            }
        }
    }

    /** A machine in the midst of all: beats, a way down, events, a tape, OUT, LABELS, a FAULT. */
    private static NapMachine rich() {
        NapMachine m = Check.machine("a: mov #0x18,sr\nb: jmp a\norg 0xffe4\nword isr\norg 0xd000\n"
            + "isr: bic.b #1,&0x23\nadd #1,r9\nreti");
        Check.assemble(m, "nop\njmp nowhere");
        m.poke(0x21, 0x5A);
        m.poke(0x24, 0xF0);
        m.poke(0x25, 1);
        Check.putWord(m, 0x132, 0xFFFB);
        Check.putWord(m, 0x138, 7);
        Check.putWord(m, 0x172, 4);
        Check.putWord(m, 0x174, 2);
        Check.putWord(m, 0x176, 3);
        Check.putWord(m, 0x160, 0x2F0);
        m.set(7, 0x7777);
        m.event(9, 0xF1);
        m.event(30, 0x02);
        m.event(70, 0xFF);
        m.run(45, -1);
        m.list(0xD000);
        Check.feed(m, "x: byte 1,2\ny: jmp x");
        return m;
    }

    /** What lies hidden shows in what comes later. */
    private static void goOn(NapMachine m) {
        m.run(3, 0xC004);
        m.run(50, -1);
        m.assemble();
        m.event(m.count(0) + 5, 0);
        m.run(30, -1);
    }

    /** "A call that throws changes nothing." */
    private static void callsThatThrowChangeNothing() {
        int[] wrong = {-1, LEAST, MOST, 65536};
        for (int number : wrong) {
            NapMachine m = rich();
            NapMachine twin = rich();
            String before = Check.state(m);
            Check.throwsArgument("run", () -> m.run(number, -1));
            Check.same("run changed nothing", Check.state(m), before);
            Check.throwsArgument("run to a place", () -> m.run(number, m.register(0)));
            Check.same("run to a place changed nothing", Check.state(m), before);
            Check.throwsIndex("register", () -> m.register(number));
            Check.same("register changed nothing", Check.state(m), before);
            Check.throwsIndex("set", () -> m.set(number, 0x1234));
            Check.same("set changed nothing", Check.state(m), before);
            Check.throwsIndex("peek", () -> m.peek(number));
            Check.same("peek changed nothing", Check.state(m), before);
            Check.throwsIndex("poke", () -> m.poke(number, 0x12));
            Check.same("poke changed nothing", Check.state(m), before);
            Check.throwsIndex("list", () -> m.list(number));
            Check.same("list changed nothing", Check.state(m), before);
            Check.throwsNoElement("octet", () -> m.octet(number));
            Check.same("octet changed nothing", Check.state(m), before);
            goOn(m);
            goOn(twin);
            Check.same("nor what comes later", Check.state(m), Check.state(twin));
        }
    }

    private static void refusedCallsChangeNothing() {
        NapMachine m = rich();
        NapMachine twin = rich();
        String before = Check.state(m);
        Check.same("end", m.end(-1) || m.end(m.count(5) + 1), false);
        Check.same("poke", m.poke(0x138, 256) || m.poke(0x160, -1) || m.poke(0x200, 256), false);
        Check.same("event before TIME", m.event(m.count(0) - 1, 1), -1);
        Check.same("event before the latest", m.event(69, 1), -1);
        Check.same("event of no byte", m.event(99, 256), -1);
        Check.same("label", m.label(-1) + m.label(3), -2);
        Check.same("count", m.count(8), -1);
        Check.same("nothing is changed", Check.state(m), before);
        goOn(m);
        goOn(twin);
        Check.same("nor what comes later", Check.state(m), Check.state(twin));
    }
}
