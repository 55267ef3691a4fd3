import java.lang.reflect.Constructor;
import java.lang.reflect.Field;
import java.lang.reflect.Method;
import java.lang.reflect.Modifier;
import java.nio.file.Files;
import java.nio.file.Path;
import java.util.ArrayList;
import java.util.List;
import java.util.Set;
import java.util.TreeSet;

/** The face as the document writes it, and those rules of LANGUAGE.md a program can look at. */
public final class LanguageTest {
    private static final String[] UNUSED = {
        "import ", "package ", "->", "::", "synchronized", "assert ", "finally", "try ", "catch ",
        "instanceof", "System.out", "double", "float", "Exact", "native", "volatile", "Thread"};

    private static final Check check = new Check();

    public static void main(String[] args) throws Exception {
        face(Face.read(Files.readString(Path.of(args[2]))));
        for (Class<?> inside : Coldaisle.class.getDeclaredClasses()) {
            check.holds(inside + " is not static", Modifier.isStatic(inside.getModifiers()));
            check.holds(inside + " is public", !Modifier.isPublic(inside.getModifiers()));
            members(inside);
        }
        members(Coldaisle.class);
        source(Files.readString(Path.of(args[0])));
        check.end();
    }

    private static void face(Face due) throws Exception {
        Set<String> methods = new TreeSet<>();
        for (Method method : Coldaisle.class.getDeclaredMethods()) {
            if (!Modifier.isPrivate(method.getModifiers())) {
                check.due(method + " is public and no more", method.getModifiers(), Modifier.PUBLIC);
                methods.add(describe(method));
            }
        }
        Set<String> dueMethods = new TreeSet<>();
        for (Face.Call call : due.calls) {
            dueMethods.add(call.signature());
        }
        check.due("methods of the document", dueMethods.size(), 20);
        check.holds("the face is " + methods + ", due is " + dueMethods, methods.equals(dueMethods));
        Set<String> constants = new TreeSet<>();
        for (Field field : Coldaisle.class.getDeclaredFields()) {
            if (!Modifier.isPrivate(field.getModifiers())) {
                constants.add(Modifier.toString(field.getModifiers()) + " " + field.getType() + " "
                        + field.getName() + " = " + field.get(null));
            }
        }
        Set<String> dueConstants = new TreeSet<>(due.constants);
        check.due("constants of the document", dueConstants.size(), 1);
        check.holds("constants are " + constants + ", due is " + dueConstants,
                constants.equals(dueConstants));
        Constructor<?>[] constructors = Coldaisle.class.getDeclaredConstructors();
        check.due("constructors", constructors.length, 1);
        check.due("it is public", constructors[0].getModifiers(), Modifier.PUBLIC);
        check.due("its parameters", constructors[0].getParameterCount(), 0);
        check.due("its exceptions", constructors[0].getExceptionTypes().length, 0);
        int both = Modifier.PUBLIC | Modifier.FINAL;
        check.due("public final class", Coldaisle.class.getModifiers(), both);
    }

    private static String describe(Method method) {
        List<String> parameters = new ArrayList<>();
        for (Class<?> type : method.getParameterTypes()) {
            parameters.add(type.getSimpleName());
        }
        List<String> exceptions = new ArrayList<>();
        for (Class<?> thrown : method.getExceptionTypes()) {
            exceptions.add(thrown.getSimpleName());
        }
        String returns = method.getReturnType().getSimpleName();
        return Face.signature(returns, method.getName(), parameters, exceptions);
    }

    private static void members(Class<?> owner) {
        int fields = 0;
        for (Field field : owner.getDeclaredFields()) {
            boolean isStatic = Modifier.isStatic(field.getModifiers());
            check.holds(field + " is static and not final",
                    !isStatic || Modifier.isFinal(field.getModifiers()));
            fields += isStatic ? 0 : 1;
        }
        check.holds(owner + " has more than 20 fields", fields <= 20);
        for (Method method : owner.getDeclaredMethods()) {
            check.holds(method + " takes more than 7", method.getParameterCount() <= 7);
            if (!Modifier.isPublic(method.getModifiers())) {
                check.holds(method + " bears a public name", !isPublicName(method.getName()));
            }
        }
    }

    private static boolean isPublicName(String name) {
        for (Method method : Coldaisle.class.getDeclaredMethods()) {
            if (Modifier.isPublic(method.getModifiers()) && method.getName().equals(name)) {
                return true;
            }
        }
        return false;
    }

    private static void source(String text) {
        StringBuilder code = new StringBuilder();
        for (String line : text.split("\n")) {
            String trimmed = line.trim();
            boolean comment = trimmed.startsWith("//") || trimmed.startsWith("*")
                    || trimmed.startsWith("/*");
            code.append(comment ? "" : line).append('\n');
            check.holds("a tab or a long line: " + line,
                    line.length() <= 100 && line.indexOf('\t') < 0);
        }
        for (String word : UNUSED) {
            check.holds("the source has '" + word + "'", code.indexOf(word) < 0);
        }
    }
}
