import java.util.NoSuchElementException;
import java.util.Random;

/**
 * Wild calls: nothing is thrown but what the document tells, where it tells it, such a call changes nothing,
 * and the same calls give the same answers.
 */
final class WildTest {
    private static final String[] PIECES = {"mov ", "add.b ", "push ", "jmp ", "word ", "byte ", "org ", "a:", "b2: ",
        "a", "r4", "r15", "pc", "sp", "#", "&", "@", "+", "-", "(", ")", ",", "\n", ";", " ", "0", "1", "8", "0x1f",
        "65535", "99999", "ret", "reti", "nop", "br ", "pop ", "clr ", "rrc.b ", "sxt ", ".b", "$", "abcdefghi", "0x"};

    public static void main(String[] args) {
        for (int seed = 1; seed <= 80; seed++) {
            long first = wild(seed);
            Check.same("the same calls, seed " + seed, wild(seed), first);
        }
        texts();
        Check.finish();
    }

    private static int odd(Random random, int most) {
        switch (random.nextInt(12)) {
            case 0:
                return -1;
            case 1:
                return most;
            case 2:
                return most + 1;
            case 3:
                return Integer.MIN_VALUE;
            case 4:
                return Integer.MAX_VALUE;
            default:
                return random.nextInt(most);
        }
    }

    private static long wild(int seed) {
        Random random = new Random(seed);
        NapMachine m = new NapMachine();
        for (int address = 0x200; address < 65536; address++) {
            m.poke(address, random.nextInt(256));
        }
        m.reset();
        long sum = 0;
        for (int k = 0; k < 500; k++) {
            sum = sum * 31 + call(m, random);
        }
        return sum;
    }

    private static long call(NapMachine m, Random random) {
        int which = random.nextInt(16);
        int number = odd(random, which == 7 ? 5000 : which == 9 || which == 8 ? 16 : which == 14 ? 40 : 65536);
        int value = odd(random, 256);
        long before = state(m);
        String due = "nothing";
        String thrown = "nothing";
        long answer = 0;
        boolean badIndex = which >= 10 && which <= 13 && (number < 0 || number > 65535);
        if (badIndex || ((which == 8 || which == 9) && (number < 0 || number > 15))) {
            due = "IndexOutOfBoundsException";
        } else if (which == 7 && (number < 0 || number > 5000)) {
            due = "IllegalArgumentException";
        } else if (which == 14 && (number < 0 || number >= m.count(6))) {
            due = "NoSuchElementException";
        }
        try {
            answer = answer(m, which, number, value, random);
        } catch (IndexOutOfBoundsException | IllegalArgumentException | NoSuchElementException e) {
            thrown = e.getClass().getSimpleName();
        }
        Check.same("call " + which + " of " + number, thrown, due);
        if (!due.equals("nothing")) {
            Check.same("call " + which + " changed nothing", state(m), before);
        }
        return answer + state(m);
    }

    private static long answer(NapMachine m, int which, int number, int value, Random random) {
        switch (which) {
            case 0:
                return m.feed(number, value, random.nextInt(), random.nextInt(), random.nextInt());
            case 1:
                return m.end(value) ? 1 : 0;
            case 2:
                return m.assemble();
            case 3:
                return m.fault();
            case 4:
                return m.label(number);
            case 5:
                if (value < 20) {
                    m.reset();
                }
                return 0;
            case 6:
                return m.event(m.count(0) + value, random.nextInt(256));
            case 7:
                return m.run(number, -1);
            case 8:
                return m.register(number);
            case 9:
                m.set(number, random.nextInt());
                return 0;
            case 10:
                return m.peek(number);
            case 11:
            case 12:
                return m.poke(random.nextInt(3) == 0 ? number : number < 0 || number > 65535 ? number : number & 0x1FF,
                    value) ? 1 : 0;
            case 13:
                return m.list(number);
            case 14:
                return m.octet(number);
            default:
                return m.count(random.nextInt(10) - 1);
        }
    }

    private static long state(NapMachine m) {
        long sum = m.fault();
        for (int k = 0; k < 8; k++) {
            sum = sum * 31 + m.count(k);
        }
        for (int k = 0; k < 16; k++) {
            sum = sum * 31 + m.register(k);
        }
        for (int k = 0x20; k < 0x200; k++) {
            sum = sum * 31 + m.peek(k);
        }
        return sum;
    }

    /** Texts of pieces: they end in a fault with a place and a kind, or make bytes. */
    private static void texts() {
        Random random = new Random(7);
        NapMachine m = new NapMachine();
        for (int k = 0; k < 20000; k++) {
            StringBuilder text = new StringBuilder();
            int pieces = random.nextInt(14);
            for (int p = 0; p < pieces; p++) {
                text.append(PIECES[random.nextInt(PIECES.length)]);
            }
            int made = Check.assemble(m, text.toString());
            int kind = m.fault();
            if (made < 0 ? kind < 1 || kind > 5 || -1 - made > text.length() : kind != 0) {
                Check.same(text + " made " + made + ", fault", kind, 0);
            }
        }
    }
}
