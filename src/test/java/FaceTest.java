import java.lang.reflect.Constructor;
import java.lang.reflect.Field;
import java.lang.reflect.Method;
import java.lang.reflect.Modifier;
import java.util.Set;
import java.util.TreeSet;

/** The class has the document's face, and nothing beside it. */
final class FaceTest {
    public static void main(String[] args) {
        Check.same("NONE", NapMachine.NONE, -1);
        Check.same("public final", NapMachine.class.getModifiers(), Modifier.PUBLIC | Modifier.FINAL);
        Set<String> due = new TreeSet<>(Set.of("feed", "end", "assemble", "fault", "label", "reset", "event", "run",
            "register", "set", "peek", "poke", "count", "list", "octet"));
        Set<String> seen = new TreeSet<>();
        for (Method method : NapMachine.class.getDeclaredMethods()) {
            if (Modifier.isPublic(method.getModifiers())) {
                seen.add(method.getName());
            } else {
                Check.same(method.getName() + " is private", Modifier.isPrivate(method.getModifiers()), true);
                Check.same(method.getName() + " bears a public name", due.contains(method.getName()), false);
            }
        }
        Check.same("public methods", seen.toString(), due.toString());
        signatures();
        for (Field field : NapMachine.class.getDeclaredFields()) {
            boolean isPublic = Modifier.isPublic(field.getModifiers());
            Check.same(field.getName(), isPublic, field.getName().equals("NONE"));
            Check.same(field.getName(), isPublic || Modifier.isPrivate(field.getModifiers()), true);
        }
        Constructor<?>[] makers = NapMachine.class.getDeclaredConstructors();
        Check.same("constructors", makers.length, 1);
        Check.same("constructor is public", makers[0].getModifiers(), Modifier.PUBLIC);
        innerNames(due);
        Check.finish();
    }

    private static void signatures() {
        String[] due = {"int feed(int,int,int,int,int)", "boolean end(int)", "int assemble()", "int fault()",
            "int label(int)", "void reset()", "int event(int,int)", "int run(int,int) throws IllegalArgumentException",
            "int register(int) throws IndexOutOfBoundsException", "void set(int,int) throws IndexOutOfBoundsException",
            "int peek(int) throws IndexOutOfBoundsException", "boolean poke(int,int) throws IndexOutOfBoundsException",
            "int count(int)", "int list(int) throws IndexOutOfBoundsException",
            "int octet(int) throws NoSuchElementException"};
        Set<String> seen = new TreeSet<>();
        for (Method method : NapMachine.class.getDeclaredMethods()) {
            if (Modifier.isPublic(method.getModifiers())) {
                seen.add(method.toString().replace("public ", "").replace("NapMachine.", "").replace("java.lang.", "")
                    .replace("java.util.", ""));
            }
        }
        Check.same("signatures", seen.toString(), new TreeSet<>(Set.of(due)).toString());
    }

    private static void innerNames(Set<String> faceNames) {
        Class<?>[] inner = NapMachine.class.getDeclaredClasses();
        Check.same("at most some twelve classes", inner.length + 1 <= 12, true);
        for (Class<?> one : inner) {
            Check.same(one.getName() + " is static", Modifier.isStatic(one.getModifiers()), true);
            int fields = 0;
            for (Field field : one.getDeclaredFields()) {
                boolean isStatic = Modifier.isStatic(field.getModifiers());
                fields += isStatic ? 0 : 1;
                Check.same(one.getName() + "." + field.getName() + " static but not final",
                    isStatic && !Modifier.isFinal(field.getModifiers()), false);
            }
            Check.same(one.getName() + " has at most twenty fields", fields <= 20, true);
            for (Method method : one.getDeclaredMethods()) {
                Check.same(one.getName() + "." + method.getName() + " bears a public name",
                    faceNames.contains(method.getName()), false);
            }
        }
    }
}
