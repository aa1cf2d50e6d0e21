import java.util.NoSuchElementException;

/** What the tests share: one machine, answers compared, texts fed to it. */
final class Check {
    private static int wrong = 0;
    private static int compared = 0;

    interface Call {
        void go();
    }

    private Check() {
    }

    static void same(String what, long got, long due) {
        compared++;
        if (got != due) {
            wrong++;
            System.out.println(what + " answered " + got + ", due is " + due);
        }
    }

    static void same(String what, boolean got, boolean due) {
        same(what, got ? 1 : 0, due ? 1 : 0);
    }

    static void same(String what, String got, String due) {
        compared++;
        if (!got.equals(due)) {
            wrong++;
            System.out.println(what + " answered \"" + got + "\", due is \"" + due + "\"");
        }
    }

    private static String thrown(Call call) {
        try {
            call.go();
            return "nothing";
        } catch (RuntimeException e) {
            return e.getClass().getSimpleName();
        }
    }

    static void throwsArgument(String what, Call call) {
        same(what, thrown(call), IllegalArgumentException.class.getSimpleName());
    }

    static void throwsIndex(String what, Call call) {
        same(what, thrown(call), IndexOutOfBoundsException.class.getSimpleName());
    }

    static void throwsNoElement(String what, Call call) {
        same(what, thrown(call), NoSuchElementException.class.getSimpleName());
    }

    /** Feeds a text, four bytes a number, and cuts the tape behind it. */
    static void feed(NapMachine machine, String text) {
        for (int from = 0; from < text.length(); from += 20) {
            machine.feed(number(text, from), number(text, from + 4), number(text, from + 8),
                number(text, from + 12), number(text, from + 16));
        }
        machine.end(text.length());
    }

    private static int number(String text, int from) {
        int number = 0;
        for (int k = from; k < from + 4; k++) {
            number = number << 8 | (k < text.length() ? text.charAt(k) & 0xFF : 0);
        }
        return number;
    }

    static int assemble(NapMachine machine, String text) {
        feed(machine, text);
        return machine.assemble();
    }

    /** A machine with the text's bytes, whose PC is at 0xC000 and whose SP is at 0x400. */
    static NapMachine machine(String text) {
        NapMachine machine = new NapMachine();
        int made = assemble(machine, text);
        if (made < 0) {
            same("assembling \"" + text + "\"", made, 0);
        }
        machine.set(0, 0xC000);
        machine.set(1, 0x400);
        return machine;
    }

    static int word(NapMachine machine, int address) {
        return machine.peek(address) | machine.peek(address + 1) << 8;
    }

    static void putWord(NapMachine machine, int address, int value) {
        machine.poke(address, value & 0xFF);
        machine.poke(address + 1, value >> 8 & 0xFF);
    }

    static String listed(NapMachine machine, int address) {
        int length = machine.list(address);
        StringBuilder text = new StringBuilder();
        for (int k = 0; k < length; k++) {
            text.append((char) machine.octet(k));
        }
        return text.toString();
    }

    /** All that calls tell of a machine without changing it. */
    static String state(NapMachine machine) {
        StringBuilder text = new StringBuilder("fault ").append(machine.fault()).append(", counts");
        for (int what = -1; what <= 8; what++) {
            text.append(' ').append(machine.count(what));
        }
        text.append(", registers");
        for (int r = 0; r < 16; r++) {
            text.append(' ').append(machine.register(r));
        }
        text.append(", OUT \"");
        for (int k = 0; k < machine.count(6); k++) {
            text.append((char) machine.octet(k));
        }
        text.append("\", labels");
        for (int line = 0; line < 20; line++) {
            text.append(' ').append(machine.label(line));
        }
        text.append(", THINGS");
        for (int address = 0; address < 0x200; address++) {
            text.append(' ').append(machine.peek(address));
        }
        long sum = 0;
        for (int address = 0x200; address < 65536; address++) {
            sum = sum * 31 + machine.peek(address);
        }
        return text.append(", memory ").append(sum).toString();
    }

    static void finish() {
        if (wrong > 0) {
            System.out.println(wrong + " of " + compared + " answers are wrong");
            System.exit(1);
        }
    }
}
