import java.io.IOException;
import java.lang.reflect.Field;
import java.lang.reflect.Member;
import java.lang.reflect.Method;
import java.lang.reflect.Modifier;
import java.nio.file.Files;
import java.nio.file.Path;
import java.util.Arrays;
import java.util.List;
import java.util.TreeSet;
import java.util.regex.Matcher;
import java.util.regex.Pattern;
import java.util.stream.Collectors;

/** The face is the document's and nothing more, and the source keeps what a look at its lines can tell of the rules. */
public final class FaceTest {
    private static final Pattern METHOD = Pattern.compile(" *public (\\w+) (\\w+)\\((.*?)\\)(?: throws (.*))?;");
    private static final List<String> FORBIDDEN = List.of("->", "::", "try {", "catch (", "finally", "synchronized",
            "assert ", "protected ", "System.", "getMessage", ".equals(", "hashCode", "toString");
    private static final int LONGEST_METHOD = 60;
    private static final int MOST_PARAMETERS = 7;
    private static final int MOST_CLASSES = 12;
    private static final int MOST_FIELDS = 20;
    private static final List<Class<?>> ENUM_FIELDS = List.of(int.class, long.class, boolean.class, String.class);
    private static final List<Class<?>> CONSTANTS = List.of(int.class, long.class, boolean.class, char.class,
            String.class, int[].class, long[].class, byte[].class, char[].class);

    public static void main(String[] args) throws IOException {
        List<String> source = Files.readAllLines(Path.of(args[0]));
        faceIsTheDocuments(Files.readAllLines(Path.of("../shared/DOC.md")));
        nothingElseIsOpen();
        classesKeepTheRules();
        sourceKeepsTheRules(source);
        methodsAreShort(source);
        Check.end("FaceTest");
    }

    private static void faceIsTheDocuments(List<String> document) {
        TreeSet<String> due = new TreeSet<>();
        for (String line : document) {
            Matcher m = METHOD.matcher(line);
            if (m.matches()) {
                due.add(m.group(1) + " " + m.group(2) + "(" + typesOf(m.group(3)) + ") " + sorted(m.group(4)));
            }
        }
        TreeSet<String> got = new TreeSet<>();
        for (Method m : LysimeterField.class.getDeclaredMethods()) {
            if (Modifier.isPublic(m.getModifiers())) {
                got.add(m.getReturnType() + " " + m.getName() + "(" + names(m.getParameterTypes()) + ") "
                        + new TreeSet<>(List.of(names(m.getExceptionTypes()).split(", "))));
            }
        }
        Check.is("methods in the document", due.size(), 41);
        Check.is("the face", got, due);
    }

    private static String typesOf(String parameters) {
        return Arrays.stream(parameters.split(", ")).map(p -> p.split(" ")[0]).collect(Collectors.joining(", "));
    }

    private static TreeSet<String> sorted(String names) {
        return new TreeSet<>(List.of((names == null ? "" : names).split(", ")));
    }

    private static String names(Class<?>[] types) {
        return Arrays.stream(types).map(Class::getSimpleName).collect(Collectors.joining(", "));
    }

    private static void nothingElseIsOpen() {
        Class<LysimeterField> face = LysimeterField.class;
        boolean isFace = Modifier.isPublic(face.getModifiers()) && Modifier.isFinal(face.getModifiers());
        Check.is("public and final", isFace, true);
        Check.is("constructors", face.getDeclaredConstructors().length, 1);
        Check.is("constructor is public", Modifier.isPublic(face.getDeclaredConstructors()[0].getModifiers()), true);
        for (Member m : face.getDeclaredFields()) {
            Check.is("field " + m.getName() + " is private", Modifier.isPrivate(m.getModifiers()), true);
        }
        for (Method m : face.getDeclaredMethods()) {
            boolean open = Modifier.isPublic(m.getModifiers());
            Check.is(m.getName() + " is public or private", open || Modifier.isPrivate(m.getModifiers()), true);
        }
    }

    /** Rules 1, 2, 5 and 11, as far as compiled classes tell of them. */
    private static void classesKeepTheRules() {
        Class<?>[] inside = LysimeterField.class.getDeclaredClasses();
        Check.is("classes are few", inside.length + 1 <= MOST_CLASSES, true);
        classKeepsTheRules(LysimeterField.class);
        for (Class<?> c : inside) {
            int modifiers = c.getModifiers();
            Check.is(c + " is static", Modifier.isStatic(modifiers) || c.isInterface(), true);
            Check.is(c + " is not open", Modifier.isPublic(modifiers) || Modifier.isProtected(modifiers), false);
            Check.is(c + " has no classes inside", c.getDeclaredClasses().length, 0);
            classKeepsTheRules(c);
        }
    }

    private static void classKeepsTheRules(Class<?> c) {
        TreeSet<String> open = Arrays.stream(LysimeterField.class.getDeclaredMethods())
                .filter(m -> Modifier.isPublic(m.getModifiers())).map(Method::getName)
                .collect(Collectors.toCollection(TreeSet::new));
        for (Method m : c.getDeclaredMethods()) {
            Check.is("parameters of " + m, m.getParameterCount() <= MOST_PARAMETERS, true);
            boolean hides = Modifier.isPrivate(m.getModifiers()) && open.contains(m.getName());
            Check.is(m + " bears the name of a public one", hides, false);
        }
        int fields = 0;
        for (Field f : c.getDeclaredFields()) {
            boolean isStatic = Modifier.isStatic(f.getModifiers());
            fields += isStatic ? 0 : 1;
            if (isStatic && !f.isEnumConstant() && !f.isSynthetic()) {
                Class<?> of = f.getType();
                boolean isValues = of.isArray() && of.getComponentType().isEnum();
                Check.is(f + " is of a constant's type", isValues || CONSTANTS.contains(of), true);
                Check.is(f + " is final", Modifier.isFinal(f.getModifiers()), true);
            } else if (!isStatic && c.isEnum()) {
                Check.is(f + " may stand in an enum", ENUM_FIELDS.contains(f.getType()), true);
            }
        }
        Check.is("fields of " + c + " are few", fields <= MOST_FIELDS, true);
    }

    private static void sourceKeepsTheRules(List<String> source) {
        for (String line : source) {
            if (line.startsWith("import ")) {
                Check.is(line, line.matches("import java\\.util\\.(ArrayList|NoSuchElementException);"), true);
            }
            for (String sign : FORBIDDEN) {
                Check.is("no " + sign + " in: " + line, line.contains(sign), false);
            }
        }
    }

    /** A member begins at 4 spaces, or at 8 in a class inside, and ends with a brace as far in. */
    private static void methodsAreShort(List<String> source) {
        for (int begin = 0; begin < source.size(); begin++) {
            Matcher m = Pattern.compile("( {4}| {8})\\w.*\\) .*\\{").matcher(source.get(begin));
            if (m.matches()) {
                int end = begin;
                while (!source.get(end).equals(m.group(1) + "}")) {
                    end++;
                }
                Check.is("length of " + source.get(begin).trim(), end - begin < LONGEST_METHOD, true);
            }
        }
    }
}
