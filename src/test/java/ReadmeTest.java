import java.lang.reflect.Method;
import java.nio.file.Files;
import java.nio.file.Path;
import java.util.List;
import java.util.regex.Matcher;
import java.util.regex.Pattern;

/** README.md's examples: its texts are assembled, its calls answer what stands beside them. */
public final class ReadmeTest {
    private static final String MADE = "NapMachine m = new NapMachine();";
    private static final String ARGUMENT = "(?:-?\\d+|0x[0-9A-F]+|NapMachine\\.NONE)";
    private static final Pattern CALL = Pattern.compile(
        "m\\.(\\w+)\\(((?:" + ARGUMENT + "(?:, )?)*)\\);(?: *// (-?\\d+|true|false)\\b.*| *//.*)?");

    private static NapMachine machine;
    private static int answered;

    public static void main(String[] args) throws Exception {
        List<String> lines = Files.readAllLines(Path.of("README.md"));
        String block = "";
        StringBuilder text = new StringBuilder();
        for (String line : lines) {
            if (line.startsWith("```")) {
                if (block.equals("text")) {
                    Check.same("README.md's text has a FAULT at", Check.assemble(machine, text.toString()) < 0, false);
                }
                block = block.isEmpty() ? line.substring(3) : "";
                text.setLength(0);
            } else if (block.equals("text")) {
                text.append(line).append('\n');
            } else if (block.equals("java")) {
                example(line);
            }
        }
        everyCallIsShown(String.join("\n", lines));
        Check.same("README.md shows answers of calls", answered >= 20, true);
        Check.finish();
    }

    /** Lines that are no calls with plain numbers are the reader's own. */
    private static void example(String line) throws Exception {
        if (line.equals(MADE)) {
            machine = new NapMachine();
            return;
        }
        Matcher call = CALL.matcher(line);
        if (!call.matches()) {
            Check.same("README.md's line \"" + line + "\" is a call that can't be read", line.startsWith("m."), false);
            return;
        }
        String got = String.valueOf(answer(call.group(1), call.group(2)));
        if (call.group(3) != null) {
            answered++;
            Check.same(line, got, call.group(3));
        }
    }

    private static Object answer(String name, String arguments) throws Exception {
        String[] parts = arguments.isEmpty() ? new String[0] : arguments.split(", ");
        Class<?>[] types = new Class<?>[parts.length];
        Object[] numbers = new Object[parts.length];
        for (int k = 0; k < parts.length; k++) {
            types[k] = int.class;
            numbers[k] = parts[k].equals("NapMachine.NONE") ? NapMachine.NONE : Long.decode(parts[k]).intValue();
        }
        return NapMachine.class.getMethod(name, types).invoke(machine, numbers);
    }

    private static void everyCallIsShown(String readme) {
        for (Method method : NapMachine.class.getDeclaredMethods()) {
            if (java.lang.reflect.Modifier.isPublic(method.getModifiers())) {
                Check.same("README.md tells of " + method.getName(), readme.contains("`" + method.getName() + "("), true);
            }
        }
    }
}
