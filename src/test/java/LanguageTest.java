import java.io.IOException;
import java.lang.reflect.Constructor;
import java.lang.reflect.Field;
import java.lang.reflect.Method;
import java.lang.reflect.Modifier;
import java.nio.file.Files;
import java.nio.file.Path;
import java.util.Arrays;
import java.util.HashSet;
import java.util.List;
import java.util.Set;
import java.util.TreeSet;
import java.util.regex.Matcher;
import java.util.regex.Pattern;

/** The rules of LANGUAGE.md that a look at the class and its text can tell. */
public final class LanguageTest {
    private static final String[] FACE = {
        "int write(int, long)", "int read(int)", "int again(int)", "int deliver(int, int, int)",
        "int hear(int, int, int)", "boolean crash(int)", "boolean stop(int)", "int phase(int)",
        "int heard(int)", "int tag(int)", "long result(int)", "int finished(int)", "int held(int)",
        "int heldTag(int, int)", "int fragment(int, int, int)", "int seal(int)",
        "int requests(int, int)", "int replies(int, int)", "int quorum()",
    };
    private static final String FORBIDDEN = "\\b(package|throw|throws|try|catch|synchronized"
        + "|assert|native|protected|volatile|\\w+Exact|System\\.(?!arraycopy))\\b|->|::"
        + "|\\bstatic\\s*\\{";

    private static final Set<String> LIBRARY = Set.of("String", "StringBuilder", "Integer", "Long",
        "Math", "System", "Arrays", "ArrayList", "List", "Iterator", "Iterable", "Comparable",
        "Override");
    private static final Set<String> STATIC_TYPES = Set.of("int", "long", "boolean", "char",
        "java.lang.String", "int[]", "long[]", "char[]", "byte[]");
    private static final int LINES_OF_A_METHOD = 60;

    private static final String PROGRAM = "src/main/java/SealedFragmentRegister.java";
    private static final String IMPORTED = "java\\.util\\.(ArrayList|List|Arrays|Iterator)";
    // The program is written with four blanks a level, so a class's methods begin at four or eight.
    private static final Pattern METHOD_HEAD = Pattern.compile("( {4}| {8})"
        + "(?!(for|while|if|switch)\\b)\\w[^;=]*\\(.*\\) \\{");
    private static final String ARROW_OF_SWITCH = "\\b(case\\b[^:;{}]*?|default)\\s*->";

    private final Checks checks = new Checks();

    public static void main(String[] args) throws IOException {
        LanguageTest test = new LanguageTest();
        test.face();
        test.classesInside();
        Path root = Path.of(args.length > 0 ? args[0] : ".");
        String program = Files.readString(root.resolve(PROGRAM));
        test.text(program);
        test.lengthOfMethods(program.lines().toList());
        test.checks.end();
    }

    private static String signature(Method method) {
        String types = Arrays.toString(method.getParameterTypes());
        return method.getReturnType() + " " + method.getName()
            + "(" + types.substring(1, types.length() - 1) + ")";
    }

    private void face() {
        Class<?> face = SealedFragmentRegister.class;
        checks.due("public", Modifier.isPublic(face.getModifiers()), true);
        checks.due("final", Modifier.isFinal(face.getModifiers()), true);
        TreeSet<String> due = new TreeSet<>(Arrays.asList(FACE));
        TreeSet<String> names = new TreeSet<>();
        for (Method method : face.getDeclaredMethods()) {
            if (Modifier.isPublic(method.getModifiers())) {
                checks.due("due: " + signature(method), due.remove(signature(method)), true);
                names.add(method.getName());
            }
        }
        checks.due("missing: " + due, due.size(), 0);
        for (Method method : face.getDeclaredMethods()) {
            if (method.isSynthetic()) {
                continue;
            }
            boolean open = Modifier.isPublic(method.getModifiers());
            checks.due("private: " + method, open || Modifier.isPrivate(method.getModifiers()), true);
            checks.due("no second " + method, !open && names.contains(method.getName()), false);
        }
        Constructor<?>[] constructors = face.getDeclaredConstructors();
        checks.due("constructors", constructors.length, 1);
        checks.due("constructor", Arrays.equals(constructors[0].getParameterTypes(),
            new Class<?>[] {int.class, int.class, int.class}), true);
        for (Field field : face.getDeclaredFields()) {
            checks.due("private: " + field, Modifier.isPrivate(field.getModifiers()), true);
        }
        fields(face);
    }

    private void fields(Class<?> type) {
        int own = 0;
        for (Field field : type.getDeclaredFields()) {
            if (Modifier.isStatic(field.getModifiers())) {
                checks.due("final: " + field, Modifier.isFinal(field.getModifiers()), true);
                checks.due("constant: " + field, mayBeStatic(field.getType()), true);
            } else {
                own++;
            }
        }
        checks.due("some twenty fields in " + type, own <= 20, true);
    }

    private static boolean mayBeStatic(Class<?> type) {
        Class<?> part = type.isArray() ? type.getComponentType() : type;
        return part.isEnum() || STATIC_TYPES.contains(type.getTypeName());
    }

    private void classesInside() {
        Class<?>[] inside = SealedFragmentRegister.class.getDeclaredClasses();
        checks.due("some twelve classes", inside.length < 12, true);
        checks.due("no local, anonymous or deeper class",
            SealedFragmentRegister.class.getNestMembers().length, inside.length + 1);
        for (Class<?> type : inside) {
            checks.due("static: " + type, Modifier.isStatic(type.getModifiers()), true);
            checks.due("not public: " + type, Modifier.isPublic(type.getModifiers()), false);
            fields(type);
            for (Method method : type.getDeclaredMethods()) {
                checks.due("seven parameters: " + method, method.getParameterCount() <= 7, true);
            }
        }
    }

    private void text(String program) {
        String code = program.replaceAll("(?s)/\\*.*?\\*/", "").replaceAll("//[^\n]*", "");
        Matcher imports = Pattern.compile("\\bimport\\s+([^;]*);").matcher(code);
        while (imports.find()) {
            checks.due(imports.group(), imports.group(1).matches(IMPORTED), true);
        }
        Matcher forbidden = Pattern.compile(FORBIDDEN).matcher(code.replaceAll(ARROW_OF_SWITCH, ""));
        while (forbidden.find()) {
            checks.due("forbidden: " + forbidden.group(), true, false);
        }
        names(code);
        checks.due("characters 0 to 255", program.chars().allMatch(letter -> letter < 256), true);
    }

    /** Each name that begins as a class does is the library's that is allowed, or one of our own. */
    private void names(String code) {
        Set<String> known = new HashSet<>(LIBRARY);
        for (Class<?> type : SealedFragmentRegister.class.getNestMembers()) {
            known.add(type.getSimpleName());
        }
        String noTexts = code.replaceAll("\"[^\"\n]*\"", "");
        Matcher names = Pattern.compile("\\b[A-Z]\\w*[a-z]\\w*").matcher(noTexts);
        while (names.find()) {
            checks.due("known: " + names.group(), known.contains(names.group()), true);
        }
    }

    private void lengthOfMethods(List<String> lines) {
        int methods = 0;
        for (int i = 0; i < lines.size(); i++) {
            Matcher head = METHOD_HEAD.matcher(lines.get(i));
            if (head.matches()) {
                methods++;
                String end = head.group(1) + "}";
                int length = lines.subList(i, lines.size()).indexOf(end) + 1;
                checks.due("lines of " + head.group(),
                    length > 0 && length <= LINES_OF_A_METHOD, true);
            }
        }
        checks.due("methods were found", methods > FACE.length, true);
    }
}
