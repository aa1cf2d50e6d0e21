/** Promises 1 (a new object), 2 (feed), 3 (end). */
final class TapeTest {
    public static void main(String[] args) {
        newObject();
        feedAndEnd();
        bytesComeHighestFirst();
        Check.finish();
    }

    private static void newObject() {
        NapMachine m = new NapMachine();
        for (int what = 0; what <= 7; what++) {
            Check.same("count(" + what + ") of a new object", m.count(what), 0);
        }
        for (int r = 0; r < 16; r++) {
            Check.same("register(" + r + ") of a new object", m.register(r), 0);
        }
        Check.same("fault of a new object", m.fault(), 0);
        Check.same("label of a new object", m.label(0), -1);
        for (int address = 0; address < 65536; address++) {
            if (m.peek(address) != 0) {
                Check.same("peek(" + address + ") of a new object", m.peek(address), 0);
            }
        }
        Check.throwsNoElement("octet of a new object", () -> m.octet(0));
        Check.same("an empty text", m.assemble(), 0);
        Check.same("HALT at 0", m.run(1, -1), 2);
    }

    private static void feedAndEnd() {
        NapMachine m = new NapMachine();
        for (int k = 1; k <= 130; k++) {
            Check.same("feed", m.feed(k, k, k, k, k), 20 * k);
        }
        Check.same("feed beyond 2600", m.feed(1, 1, 1, 1, 1), -1);
        Check.same("none came", m.count(5), 2600);
        Check.same("end(2601)", m.end(2601), false);
        Check.same("end(-1)", m.end(-1), false);
        Check.same("end(min)", m.end(Integer.MIN_VALUE), false);
        Check.same("end changed nothing", m.count(5), 2600);
        Check.same("end(2600)", m.end(2600), true);
        Check.same("end(2581)", m.end(2581), true);
        Check.same("feed at 2581", m.feed(1, 1, 1, 1, 1), -1);
        Check.same("end(2580)", m.end(2580), true);
        Check.same("feed at 2580", m.feed(1, 1, 1, 1, 1), 2600);
        Check.same("end(0)", m.end(0), true);
        Check.same("count(5)", m.count(5), 0);
        Check.same("end(1) of none", m.end(1), false);
        Check.same("end(0) of none", m.end(0), true);
    }

    private static void bytesComeHighestFirst() {
        NapMachine m = new NapMachine();
        // "byte" " 1,2" ",3 ;" 0x80FF8001 0xFFFFFFFF: all behind ; counts for nothing
        Check.same("feed", m.feed(0x62797465, 0x20312C32, 0x2C33203B, 0x80FF8001, -1), 20);
        Check.same("assemble", m.assemble(), 3);
        Check.same("first", m.peek(0xC000), 1);
        Check.same("second", m.peek(0xC001), 2);
        Check.same("third", m.peek(0xC002), 3);
    }
}
