/** Promises 15 (list), 16 (octet): what is told, and that the ASSEMBLER makes it so again. */
final class ListTest {
    public static void main(String[] args) {
        texts();
        wordsOnly();
        theEndOfMemory();
        outAndOctets();
        nothingIsCleared();
        roundTrip();
        Check.finish();
    }

    private static void tells(String due, int... words) {
        NapMachine m = new NapMachine();
        for (int k = 0; k < words.length; k++) {
            Check.putWord(m, 0xC000 + 2 * k, words[k]);
        }
        Check.same("list", Check.listed(m, 0xC000), due);
        Check.same(due + ": behind", m.count(7), 0xC000 + 2 * words.length);
        Check.same(due + ": an odd address", Check.listed(m, 0xC001), due);
    }

    private static void texts() {
        tells("mov r4,r5", 0x4405);
        tells("mov.b r0,r15", 0x404F);
        tells("mov @r1+,r0", 0x4130);
        tells("mov #0,r3", 0x4303);
        tells("mov #0,r4", 0x4304);
        tells("mov #1,r4", 0x4314);
        tells("mov #2,r4", 0x4324);
        tells("mov #-1,r4", 0x4334);
        tells("mov.b #-1,r4", 0x4374);
        tells("mov #4,r4", 0x4224);
        tells("mov #8,r4", 0x4234);
        tells("mov r2,r4", 0x4204);
        tells("subc.b 65535(r15),32768(r14)", 0x7FDE, 0xFFFF, 0x8000);
        tells("add &512,&65535", 0x5292, 0x200, 0xFFFF);
        tells("xor 49154,49156", 0xE090, 0, 0);
        tells("and 49152,0(r4)", 0xF094, 0xFFFE, 0);
        tells("dadd @r4,r5", 0xA425);
        tells("bit @r4+,r5", 0xB435);
        tells("cmp #1234,r5", 0x9035, 1234);
        tells("cmp #3,r5", 0x9035, 3);
        tells("jne 49154", 0x2000);
        tells("mov r0,r0", 0x4000);
        tells("bis #65534,r5", 0xD035, 0xFFFE);
        tells("rrc r4", 0x1004);
        tells("rrc.b #0", 0x1043);
        tells("swpb @r4+", 0x10B4);
        tells("rra #300", 0x1130, 300);
        tells("sxt &512", 0x1192, 0x200);
        tells("push r3", 0x1203);
        tells("call r3", 0x1283);
        tells("push.b #1", 0x1270, 1);
        tells("push #-1", 0x1230, 0xFFFF);
        tells("call #49152", 0x12B0, 0xC000);
        tells("reti", 0x1300);
        tells("jne 49152", 0x23FF);
        tells("jmp 50176", 0x3DFF);
        tells("jl 48130", 0x3A00);
    }

    private static void wordsOnly() {
        tells("word 0", 0);
        tells("word 8191", 0x1FFF);
        tellsWord(0x10C4);
        tellsWord(0x1380);
        tellsWord(0x4024);
        tellsWord(0x1020);
        tellsWord(0x1301);
        tellsWord(0x1310);
        tellsWord(0x1213);
        tellsWord(0x1232);
        tellsWord(0x12A3);
        tellsWord(0x12A2);
        tellsWord(0x1220);
        tellsWord(0x4483);
        for (int number : new int[] {0, 1, 2, 4, 8, 0xFFFF}) {
            NapMachine m = new NapMachine();
            Check.putWord(m, 0xC000, 0x4034);
            Check.putWord(m, 0xC002, number);
            Check.same("# made otherwise", Check.listed(m, 0xC000), "word 16436");
            Check.same("behind", m.count(7), 0xC002);
        }
    }

    private static void tellsWord(int word) {
        NapMachine m = new NapMachine();
        Check.putWord(m, 0xC000, word);
        Check.putWord(m, 0xC002, 0x300);
        Check.same("list", Check.listed(m, 0xC000), "word " + word);
        Check.same("behind", m.count(7), 0xC002);
    }

    private static void theEndOfMemory() {
        NapMachine m = new NapMachine();
        Check.putWord(m, 0xFFFC, 0x4090);
        Check.putWord(m, 0xFFFE, 0x4034);
        Check.same("X beyond 0xffff", Check.listed(m, 0xFFFE), "word 16436");
        Check.same("behind 0xffff", m.count(7), 0);
        Check.same("a second X beyond", Check.listed(m, 0xFFFC), "word 16528");
        Check.same("behind", m.count(7), 0xFFFE);
        Check.putWord(m, 0xFFFE, 0x1230);
        Check.same("push's # beyond", Check.listed(m, 0xFFFE), "word 4656");
        Check.same("the first address", Check.listed(m, 0), "word 0");
        Check.putWord(m, 0xFFFC, 0x4034);
        Check.putWord(m, 0xFFFE, 1234);
        Check.same("X at 0xfffe", Check.listed(m, 0xFFFC), "mov #1234,r4");
        Check.same("behind 0xffff", m.count(7), 0);
        Check.putWord(m, 0xFFFE, 0x3C00);
        Check.same("a jump over the end", Check.listed(m, 0xFFFF), "jmp 0");
        Check.same("behind 0xffff", m.count(7), 0);
    }

    private static void outAndOctets() {
        NapMachine m = Check.machine("reti\nnop");
        Check.throwsNoElement("octet of none", () -> m.octet(0));
        Check.same("list", m.list(0xC002), 9);
        Check.same("count(6)", m.count(6), 9);
        Check.same("list", m.list(0xC000), 4);
        Check.same("count(6)", m.count(6), 4);
        Check.same("octet(3)", m.octet(3), 'i');
        Check.throwsNoElement("octet(4)", () -> m.octet(4));
        Check.throwsNoElement("octet(-1)", () -> m.octet(-1));
        Check.throwsNoElement("octet(max)", () -> m.octet(Integer.MAX_VALUE));
        Check.throwsIndex("list(-1)", () -> m.list(-1));
        Check.throwsIndex("list(65536)", () -> m.list(65536));
        Check.same("OUT stays", m.count(6), 4);
        Check.same("count(7) stays", m.count(7), 0xC002);
    }

    private static void nothingIsCleared() {
        NapMachine m = new NapMachine();
        Check.putWord(m, 0x164, 0x11);
        Check.same("IV", Check.listed(m, 0x12E), "word 2");
        Check.same("is still set", Check.word(m, 0x164), 0x11);
    }

    /** Every word as a code, at several places with several words behind it. */
    private static void roundTrip() {
        int[] places = {0xC000, 0x0200, 0xFFF8, 0xFFFC, 0xFFFE};
        int[] behind = {0, 1, 2, 3, 4, 8, 0x0200, 0x7FFF, 0x8000, 0xC000, 0xFFFE, 0xFFFF};
        NapMachine m = new NapMachine();
        NapMachine other = new NapMachine();
        int words = 0;
        for (int code = 0; code < 65536; code++) {
            int place = places[code % 3 == 0 ? code / 3 % places.length : 0];
            int x = behind[code / 7 % behind.length];
            int y = behind[code / 11 % behind.length];
            putWords(m, place, code, x, y);
            String text = Check.listed(m, place);
            int size = (m.count(7) - place) & 0xFFFF;
            putWords(other, place, ~code & 0xFFFF, ~x & 0xFFFF, ~y & 0xFFFF);
            int made = Check.assemble(other, "org " + place + "\n" + text);
            if (made != size) {
                Check.same(code + " as " + text, made, size);
            }
            for (int k = 0; k < size; k += 2) {
                if (Check.word(m, place + k) != Check.word(other, place + k)) {
                    Check.same(text + " byte " + k, Check.word(other, place + k), Check.word(m, place + k));
                }
            }
            words += text.startsWith("word") ? 1 : 0;
        }
        Check.same("some are words", words > 0x1C00, true);
        Check.same("most are not", words < 16384, true);
    }

    private static void putWords(NapMachine m, int place, int... words) {
        for (int k = 0; k < words.length && place + 2 * k < 65536; k++) {
            Check.putWord(m, place + 2 * k, words[k]);
        }
    }
}
