import java.util.ArrayList;
import java.util.HashMap;
import java.util.List;
import java.util.Map;
import java.util.Random;
import java.util.regex.Matcher;
import java.util.regex.Pattern;

/**
 * Random texts, right ones and spoilt ones, compared with a second, plain reading of the document's "THE ASSEMBLER":
 * what assemble() and fault() answer, what each LABEL is, and all bytes that come.
 */
final class TextsTest {
    private static final String[] TWOS = {"mov", "add", "addc", "subc", "sub", "cmp", "dadd", "bit", "bic", "bis", "xor",
        "and"};
    private static final String[] ONES = {"rrc", "swpb", "rra", "sxt", "push", "call"};
    private static final String[] JUMPS = {"jne", "jeq", "jnc", "jc", "jn", "jge", "jl", "jmp"};
    private static final String[] LABELS = {"a", "b", "loop", "abcdefgh", "aBC9", "r16", "movx", "end", "z0"};
    private static final String[] NUMBERS = {"0", "1", "2", "3", "4", "8", "-1", "-0", "00001", "0x1", "0xffff", "0xFFFF",
        "127", "128", "-128", "-129", "255", "256", "32767", "32768", "-32768", "-32769", "65534", "65535", "65536",
        "99999", "-65535", "0xc000", "0xc001", "49160", "0xbffe", "0xc3fe", "0xc402", "123456", "0x", "0x00012", "5"};
    private static final String SPOILERS = "ab r0123459x.,:;()&@#+-\n $A\t";

    public static void main(String[] args) {
        Map<Integer, Integer> kinds = new HashMap<>();
        for (int seed = 1; seed <= 30000; seed++) {
            Random random = new Random(seed);
            String text = text(random);
            kinds.merge(compare(text), 1, Integer::sum);
        }
        for (int kind = 0; kind <= 5; kind++) {
            Check.same("texts with fault " + kind + " were seen", kinds.getOrDefault(kind, 0) > 50, true);
        }
        Check.finish();
    }

    private static int compare(String text) {
        Plain plain = new Plain(text);
        NapMachine machine = new NapMachine();
        String shown = '"' + text.replace("\n", "\\n") + '"';
        Check.same(shown, Check.assemble(machine, text), plain.answer);
        Check.same(shown + ": fault", machine.fault(), plain.kind);
        for (int line = 0; line < 14; line++) {
            int due = plain.kind == 0 && plain.lines.containsKey(line) ? plain.labels.get(plain.lines.get(line)) : -1;
            Check.same(shown + ": label of LINE " + line, machine.label(line), due);
        }
        for (Map.Entry<Integer, Integer> one : plain.bytes.entrySet()) {
            if (one.getKey() >= 0x200) {
                Check.same(shown + ": byte at " + one.getKey(), machine.peek(one.getKey()), one.getValue());
            }
        }
        int around = 0;
        for (int address = 0xBF00; address < 0xC100; address++) {
            around += plain.bytes.containsKey(address) ? 0 : machine.peek(address);
        }
        Check.same(shown + ": nothing else is changed", around, 0);
        return plain.kind;
    }

    private static String pick(Random random, String[] some) {
        return some[random.nextInt(some.length)];
    }

    private static String text(Random random) {
        StringBuilder text = new StringBuilder();
        int lines = 1 + random.nextInt(9);
        for (int k = 0; k < lines; k++) {
            if (random.nextInt(3) == 0) {
                text.append(pick(random, LABELS)).append(random.nextInt(12) == 0 ? "" : ":");
            }
            text.append(random.nextBoolean() ? " " : "");
            if (random.nextInt(5) > 0) {
                text.append(statement(random));
            }
            text.append(random.nextInt(9) == 0 ? " ; mov $" : "");
            text.append(k < lines - 1 || random.nextBoolean() ? "\n" : "");
        }
        int spoilt = random.nextInt(5) == 0 ? 1 + random.nextInt(2) : 0;
        for (int k = 0; k < spoilt; k++) {
            int place = random.nextInt(text.length() + 1);
            if (random.nextBoolean() && place < text.length()) {
                text.deleteCharAt(place);
            } else {
                text.insert(place, SPOILERS.charAt(random.nextInt(SPOILERS.length())));
            }
        }
        return text.toString();
    }

    private static String statement(Random random) {
        switch (random.nextInt(12)) {
            case 0:
                return "org " + pick(random, new String[] {"0xc000", "0xc001", "65535", "0xfffe", "0xfffc", "-1", "512",
                    pick(random, NUMBERS)});
            case 1:
                return "word " + row(random);
            case 2:
                return "byte " + row(random);
            case 3:
            case 4:
                return pick(random, ONES) + withB(random, 6) + " " + source(random);
            case 5:
                return pick(random, JUMPS) + " " + (random.nextInt(4) > 0 ? pick(random, LABELS) : expression(random));
            case 6:
                return pick(random, new String[] {"ret", "reti", "nop"});
            case 7:
                return pick(random, new String[] {"br ", "pop ", "clr "}) + source(random);
            default:
                return pick(random, TWOS) + withB(random, 3) + " " + source(random) + ","
                    + (random.nextInt(9) > 0 ? target(random) : source(random));
        }
    }

    private static String withB(Random random, int of) {
        return random.nextInt(of) == 0 ? ".b" : "";
    }

    private static String row(Random random) {
        StringBuilder row = new StringBuilder(expression(random));
        for (int more = random.nextInt(4); more > 0; more--) {
            row.append(random.nextBoolean() ? "," : " , ").append(expression(random));
        }
        return row.toString();
    }

    private static String expression(Random random) {
        if (random.nextInt(3) > 0) {
            return random.nextInt(3) > 0 ? String.valueOf(random.nextInt(300)) : pick(random, NUMBERS);
        }
        String label = pick(random, LABELS);
        return random.nextBoolean() ? label : label + (random.nextBoolean() ? "+" : "-") + random.nextInt(70);
    }

    private static String register(Random random) {
        return random.nextInt(6) > 0 ? "r" + random.nextInt(16) : pick(random, new String[] {"pc", "sp", "sr"});
    }

    private static String base(Random random) {
        return random.nextInt(20) > 0 ? "r" + (4 + random.nextInt(12)) : register(random);
    }

    private static String target(Random random) {
        switch (random.nextInt(4)) {
            case 0:
                return expression(random) + "(" + base(random) + ")";
            case 1:
                return "&" + expression(random);
            case 2:
                return expression(random);
            default:
                return register(random);
        }
    }

    private static String source(Random random) {
        switch (random.nextInt(6)) {
            case 0:
                return "@" + base(random);
            case 1:
                return "@" + base(random) + "+";
            case 2:
                return "#" + (random.nextBoolean() ? pick(random, NUMBERS) : expression(random));
            default:
                return target(random);
        }
    }

    private static final class Fault extends Exception {
        final int kind;
        final int place;

        Fault(int kind, int place) {
            super(null, null, false, false);
            this.kind = kind;
            this.place = place;
        }
    }

    /** A value that is known when all LABELS are. */
    private record Later(String label, int number, int place) {
    }

    /** A word or byte to come; relative: less its own place; jump: which one, or -1. */
    private record Item(int address, Later value, boolean isByte, boolean relative, int jump) {
    }

    private record Operand(int mode, int register, Later next, boolean relative) {
    }

    private static final class Plain {
        private static final Pattern TOKEN = Pattern.compile("[a-z][a-zA-Z0-9]*|0x[0-9a-f]*|[0-9]+|\\.b|[:,()&@#+-]");
        private static final List<String> NAMES = List.of("org word byte ret reti nop br pop clr mov add addc subc sub cmp "
            .concat("dadd bit bic bis xor and rrc rra push swpb sxt call jne jeq jnc jc jn jge jl jmp r0 r1 r2 r3 r4 r5 r6 ")
            .concat("r7 r8 r9 r10 r11 r12 r13 r14 r15 pc sp sr").split(" "));
        final Map<String, Integer> labels = new HashMap<>();
        final Map<Integer, String> lines = new HashMap<>();
        final Map<Integer, Integer> bytes = new HashMap<>();
        int kind;
        int answer;
        private final String text;
        private final List<Item> items = new ArrayList<>();
        private int at;
        private int lineEnd;
        private int codeEnd;
        private int address = 0xC000;
        private String token;
        private int tokenPlace;

        Plain(String text) {
            this.text = text;
            try {
                readAll();
                makeAll();
            } catch (Fault fault) {
                kind = fault.kind;
                answer = -1 - fault.place;
                bytes.clear();
            }
        }

        private void readAll() throws Fault {
            int line = 0;
            int start = 0;
            while (start <= text.length()) {
                int newline = text.indexOf('\n', start);
                lineEnd = newline < 0 ? text.length() : newline;
                int comment = text.indexOf(';', start);
                codeEnd = comment >= 0 && comment < lineEnd ? comment : lineEnd;
                at = start;
                next();
                readLine(line);
                start = lineEnd + 1;
                line++;
            }
        }

        /** An empty token is the end of the LINE; "?" is none, which comes nowhere. */
        private void next() {
            int from = at;
            while (at < codeEnd && text.charAt(at) == ' ') {
                at++;
            }
            token = "";
            tokenPlace = lineEnd;
            if (at == codeEnd) {
                return;
            }
            tokenPlace = at;
            Matcher matcher = TOKEN.matcher(text).region(at, codeEnd);
            if (!matcher.lookingAt()) {
                token = "?";
                return;
            }
            token = matcher.group();
            at = matcher.end();
            boolean hex = token.startsWith("0x");
            int length = token.length();
            char first = token.charAt(0);
            boolean tooLong = hex ? length < 3 || length > 6 : Character.isDigit(first) ? length > 5
                : Character.isLetter(first) && length > 8;
            if (tooLong || (first == '.' && from != tokenPlace)) {
                token = "?";
            }
        }

        private Fault wrong() {
            return new Fault(1, tokenPlace);
        }

        private boolean isNumber() {
            return !token.isEmpty() && Character.isDigit(token.charAt(0));
        }

        private boolean isLabel() {
            return !token.isEmpty() && Character.isLetter(token.charAt(0)) && !NAMES.contains(token);
        }

        private void pass(String due) throws Fault {
            if (!token.equals(due)) {
                throw wrong();
            }
            next();
        }

        private void readLine(int line) throws Fault {
            String label = null;
            if (isLabel()) {
                label = token;
                if (labels.containsKey(label) || labels.size() == 60) {
                    throw new Fault(3, tokenPlace);
                }
                next();
                pass(":");
            }
            int begin = address;
            if (!token.isEmpty()) {
                begin = readStatement();
            }
            if (!token.isEmpty()) {
                throw wrong();
            }
            if (address > 65536) {
                throw new Fault(2, lineEnd);
            }
            if (label != null) {
                labels.put(label, begin % 65536);
                lines.put(line, label);
            }
        }

        private int readStatement() throws Fault {
            String name = token;
            if (!NAMES.contains(name) || NAMES.indexOf(name) >= NAMES.indexOf("r0")) {
                throw wrong();
            }
            next();
            if (name.equals("org")) {
                if (isLabel()) {
                    throw wrong();
                }
                address = readExpression().number & 0xFFFF;
                return address;
            }
            boolean isByte = name.equals("byte");
            address += isByte ? 0 : address % 2;
            int begin = address;
            if (isByte || name.equals("word")) {
                readRow(isByte);
            } else {
                readInstruction(name);
            }
            return begin;
        }

        private void readRow(boolean isByte) throws Fault {
            while (true) {
                Later value = readExpression();
                if (isByte && value.label == null && (value.number < -128 || value.number > 255)) {
                    throw new Fault(2, value.place);
                }
                items.add(new Item(address, value, isByte, false, -1));
                address += isByte ? 1 : 2;
                if (!token.equals(",")) {
                    return;
                }
                next();
            }
        }

        private void readInstruction(String name) throws Fault {
            int two = List.of(TWOS).indexOf(name);
            int one = List.of(ONES).indexOf(name);
            int jump = List.of(JUMPS).indexOf(name);
            int b = 0;
            if ((two >= 0 || name.equals("rrc") || name.equals("rra") || name.equals("push")) && token.equals(".b")) {
                b = 0x40;
                next();
            }
            if (two >= 0) {
                Operand source = readOperand(true, true);
                pass(",");
                makeTwo(two + 4, b, source, readOperand(false, true));
            } else if (one >= 0) {
                Operand source = readOperand(true, one < 4);
                makeWord(0x1000 + one * 128 + b + source.mode * 16 + source.register);
                makeNext(source);
            } else if (jump >= 0) {
                items.add(new Item(address, readExpression(), false, false, jump));
                address += 2;
            } else {
                readShort(name);
            }
        }

        private void readShort(String name) throws Fault {
            Operand zero = new Operand(0, 3, null, false);
            Operand pop = new Operand(3, 1, null, false);
            Operand pc = new Operand(0, 0, null, false);
            switch (name) {
                case "reti":
                    makeWord(0x1300);
                    break;
                case "ret":
                    makeTwo(4, 0, pop, pc);
                    break;
                case "nop":
                    makeTwo(4, 0, zero, zero);
                    break;
                case "br":
                    makeTwo(4, 0, readOperand(true, true), pc);
                    break;
                case "pop":
                    makeTwo(4, 0, pop, readOperand(false, true));
                    break;
                default:
                    makeTwo(4, 0, zero, readOperand(false, true));
                    break;
            }
        }

        private void makeWord(int word) {
            items.add(new Item(address, new Later(null, word, 0), false, false, -1));
            address += 2;
        }

        private void makeTwo(int which, int b, Operand source, Operand target) {
            makeWord(which * 4096 + source.register * 256 + target.mode * 128 + b + source.mode * 16 + target.register);
            makeNext(source);
            makeNext(target);
        }

        private void makeNext(Operand operand) {
            if (operand.next != null) {
                items.add(new Item(address, operand.next, false, operand.relative, -1));
                address += 2;
            }
        }

        private int registerOfToken() {
            int index = List.of("pc", "sp", "sr").indexOf(token);
            if (index >= 0) {
                return index;
            }
            return NAMES.contains(token) && token.matches("r[0-9]+") ? Integer.parseInt(token.substring(1)) : -1;
        }

        private int readBase() throws Fault {
            int register = registerOfToken();
            if (register < 1 || register == 2 || register == 3) {
                throw wrong();
            }
            next();
            return register;
        }

        private Operand readOperand(boolean isSource, boolean constants) throws Fault {
            int register = registerOfToken();
            if (register >= 0) {
                next();
                return new Operand(0, register, null, false);
            }
            if (token.equals("&")) {
                next();
                return new Operand(1, 2, readExpression(), false);
            }
            if (isSource && token.equals("@")) {
                next();
                int base = readBase();
                boolean more = token.equals("+");
                if (more) {
                    next();
                }
                return new Operand(more ? 3 : 2, base, null, false);
            }
            if (isSource && token.equals("#")) {
                next();
                return number(readExpression(), constants);
            }
            Later value = readExpression();
            if (!token.equals("(")) {
                return new Operand(1, 0, value, true);
            }
            next();
            int base = readBase();
            pass(")");
            return new Operand(1, base, value, false);
        }

        private static Operand number(Later value, boolean constants) {
            int[] made = {65535, 0, 1, 2, 4, 8};
            int[] modes = {3, 0, 1, 2, 2, 3};
            for (int k = 0; k < 6; k++) {
                if (constants && value.label == null && (value.number & 0xFFFF) == made[k]) {
                    return new Operand(modes[k], k < 4 ? 3 : 2, null, false);
                }
            }
            return new Operand(3, 0, value, false);
        }

        private Later readExpression() throws Fault {
            int place = tokenPlace;
            String label = isLabel() ? token : null;
            int sign = 1;
            if (label != null) {
                next();
                if (!token.equals("+") && !token.equals("-")) {
                    return new Later(label, 0, place);
                }
            }
            if (token.equals("-") || (label != null && token.equals("+"))) {
                sign = token.equals("-") ? -1 : 1;
                next();
            }
            if (!isNumber()) {
                throw wrong();
            }
            int number = token.startsWith("0x") ? Integer.parseInt(token.substring(2), 16) : Integer.parseInt(token);
            if (number > 65535 || (label == null && sign * number < -32768)) {
                throw new Fault(2, place);
            }
            next();
            return new Later(label, sign * number, place);
        }

        private void makeAll() throws Fault {
            Fault first = null;
            for (Item item : items) {
                Fault fault = make(item);
                if (fault != null && (first == null || fault.place < first.place)) {
                    first = fault;
                }
            }
            if (first != null) {
                throw first;
            }
        }

        private Fault make(Item item) {
            Later later = item.value;
            if (later.label != null && !labels.containsKey(later.label)) {
                return new Fault(4, later.place);
            }
            int value = later.number + (later.label == null ? 0 : labels.get(later.label));
            if (item.relative) {
                value -= item.address;
            }
            if (item.jump >= 0) {
                int way = (short) (value - item.address - 2);
                if (way % 2 != 0 || way < -1024 || way > 1022) {
                    return new Fault(5, later.place);
                }
                value = 0x2000 + item.jump * 1024 + (way / 2 & 1023);
            }
            bytes.put(item.address, value & 255);
            answer++;
            if (!item.isByte) {
                bytes.put(item.address + 1, value >> 8 & 255);
                answer++;
            }
            return null;
        }
    }
}
