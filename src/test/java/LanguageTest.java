import java.lang.reflect.Constructor;
import java.lang.reflect.Field;
import java.lang.reflect.Method;
import java.lang.reflect.Modifier;
import java.nio.file.Files;
import java.nio.file.Path;
import java.util.Arrays;
import java.util.Set;
import java.util.TreeSet;

/** The face of the class, and those rules of LANGUAGE.md that a program can look at. */
public final class LanguageTest {
    private static final String[] FACE = {
        "int setLoad(int,int) IAE", "int setSetpoint(int,int) IAE", "int setEffect(int,int,int) IAE",
        "void setGains(int,int) IAE", "void setHall(int,int) IAE", "int setDelay(int) IAE",
        "int fail(int) IAE,ISE", "int repair(int) IAE,ISE", "int command(int) IAE",
        "int speed(int) IAE", "int pass(int) IAE,ISE", "int clock()", "int temperature(int) IAE",
        "int demand(int) IAE", "int errors(int) IAE", "int hotMinutes(int) IAE", "int hottest()",
        "int expected(int,int) IAE", "int critical(int,int) IAE", "int margin(int,int) IAE"};
    private static final String[] UNUSED = {
        "import ", "package ", "->", "::", "synchronized", "assert ", "finally", "try ", "catch ",
        "instanceof", "System.out", "double", "float", "Exact", "native", "volatile", "Thread"};

    private static final Check check = new Check();

    public static void main(String[] args) throws Exception {
        face();
        for (Class<?> inside : Coldaisle.class.getDeclaredClasses()) {
            check.holds(inside + " is not static", Modifier.isStatic(inside.getModifiers()));
            check.holds(inside + " is public", !Modifier.isPublic(inside.getModifiers()));
            members(inside);
        }
        members(Coldaisle.class);
        source(Files.readString(Path.of(args[0])));
        check.end();
    }

    private static void face() throws Exception {
        Set<String> methods = new TreeSet<>();
        for (Method method : Coldaisle.class.getDeclaredMethods()) {
            if (!Modifier.isPrivate(method.getModifiers())) {
                check.holds(method + " is not public", Modifier.isPublic(method.getModifiers()));
                check.holds(method + " is static", !Modifier.isStatic(method.getModifiers()));
                methods.add(describe(method));
            }
        }
        Set<String> due = new TreeSet<>(Arrays.asList(FACE));
        check.holds("the face is " + methods + ", due is " + due, methods.equals(due));
        for (Field field : Coldaisle.class.getDeclaredFields()) {
            boolean named = field.getName().equals("NONE");
            check.holds(field + " is not private", named || Modifier.isPrivate(field.getModifiers()));
        }
        Constructor<?>[] constructors = Coldaisle.class.getDeclaredConstructors();
        check.due("constructors", constructors.length, 1);
        check.due("its parameters", Coldaisle.class.getConstructor().getParameterCount(), 0);
        int both = Modifier.PUBLIC | Modifier.FINAL;
        check.due("public final class", Coldaisle.class.getModifiers() & both, both);
        int none = Coldaisle.class.getField("NONE").getModifiers();
        check.holds("NONE is no constant", Modifier.isStatic(none) && Modifier.isFinal(none));
    }

    private static String describe(Method method) {
        StringBuilder text = new StringBuilder();
        text.append(method.getReturnType()).append(' ').append(method.getName()).append('(');
        for (int i = 0; i < method.getParameterCount(); i++) {
            text.append(i > 0 ? "," : "").append(method.getParameterTypes()[i]);
        }
        text.append(')');
        String before = " ";
        for (Class<?> thrown : method.getExceptionTypes()) {
            text.append(before).append(thrown == IllegalArgumentException.class ? "IAE"
                    : thrown == IllegalStateException.class ? "ISE" : thrown.getName());
            before = ",";
        }
        return text.toString();
    }

    private static void members(Class<?> owner) {
        int fields = 0;
        for (Field field : owner.getDeclaredFields()) {
            boolean isStatic = Modifier.isStatic(field.getModifiers());
            check.holds(field + " is static and not final",
                    !isStatic || Modifier.isFinal(field.getModifiers()));
            fields += isStatic ? 0 : 1;
        }
        check.holds(owner + " has more than 20 fields", fields <= 20);
        for (Method method : owner.getDeclaredMethods()) {
            check.holds(method + " takes more than 7", method.getParameterCount() <= 7);
            if (!Modifier.isPublic(method.getModifiers())) {
                check.holds(method + " bears a public name", !isPublicName(method.getName()));
            }
        }
    }

    private static boolean isPublicName(String name) {
        for (Method method : Coldaisle.class.getDeclaredMethods()) {
            if (Modifier.isPublic(method.getModifiers()) && method.getName().equals(name)) {
                return true;
            }
        }
        return false;
    }

    private static void source(String text) {
        StringBuilder code = new StringBuilder();
        for (String line : text.split("\n")) {
            String trimmed = line.trim();
            boolean comment = trimmed.startsWith("//") || trimmed.startsWith("*")
                    || trimmed.startsWith("/*");
            code.append(comment ? "" : line).append('\n');
            check.holds("a tab or a long line: " + line,
                    line.length() <= 100 && line.indexOf('\t') < 0);
        }
        for (String word : UNUSED) {
            check.holds("the source has '" + word + "'", code.indexOf(word) < 0);
        }
    }
}
