import java.io.IOException;
import java.lang.reflect.Constructor;
import java.lang.reflect.Field;
import java.lang.reflect.Method;
import java.lang.reflect.Modifier;
import java.nio.file.Files;
import java.nio.file.Path;
import java.util.ArrayList;
import java.util.Arrays;
import java.util.HashSet;
import java.util.List;
import java.util.Set;
import java.util.TreeSet;
import java.util.regex.Matcher;
import java.util.regex.Pattern;

/** The public face is the one that ../shared/DOC.md shows, and nothing else can be seen from outside. */
public final class FaceTest {
    private static final Path DOCUMENT = Path.of("../shared/DOC.md");
    private static final Path PROGRAM = Path.of("src/main/java/Pledgehouse.java");

    public static void main(String[] args) throws IOException {
        String face = documentedFace();
        methods(face);
        constants(face);
        constructorsAndClasses();
        source();
        Checks.end("FaceTest");
    }

    private static String documentedFace() throws IOException {
        String document = Files.readString(DOCUMENT);
        int from = document.indexOf("```java");
        return document.substring(from, document.indexOf("```", from + 7));
    }

    private static void same(String what, Set<String> got, Set<String> due) {
        Set<String> more = new TreeSet<>(got);
        more.removeAll(due);
        Set<String> fewer = new TreeSet<>(due);
        fewer.removeAll(got);
        Checks.due(what + ": too many " + more + ", missing " + fewer, more.size() + fewer.size(), 0);
    }

    /** A signature as the document writes it, without the names of the arguments. */
    private static void methods(String face) {
        Set<String> due = new TreeSet<>();
        Matcher line = Pattern.compile("public (int|void) (\\w+)\\(([^)]*)\\)(?: throws ([\\w, ]+))?;").matcher(face);
        while (line.find()) {
            List<String> types = new ArrayList<>();
            for (String argument : line.group(3).isEmpty() ? new String[0] : line.group(3).split(", ")) {
                types.add(argument.split(" ")[0]);
            }
            String thrown = line.group(4) == null ? "" : line.group(4);
            due.add(line.group(1) + " " + line.group(2) + types + " " + thrown);
        }
        Checks.due("methods in the document", due.size(), 33);
        Set<String> got = new TreeSet<>();
        Set<String> publicNames = new HashSet<>();
        for (Method method : Pledgehouse.class.getDeclaredMethods()) {
            if (Modifier.isPublic(method.getModifiers())) {
                publicNames.add(method.getName());
                got.add(method.getReturnType() + " " + method.getName() + names(method.getParameterTypes()) + " "
                        + String.join(", ", names(method.getExceptionTypes())));
            }
        }
        same("methods", got, due);
        for (Method method : Pledgehouse.class.getDeclaredMethods()) {
            int modifiers = method.getModifiers();
            boolean isHidden = Modifier.isPrivate(modifiers) && !publicNames.contains(method.getName());
            Checks.due("hidden: " + method, Modifier.isPublic(modifiers) || isHidden ? 1 : 0, 1);
        }
    }

    private static List<String> names(Class<?>[] types) {
        List<String> names = new ArrayList<>();
        for (Class<?> type : types) {
            names.add(type.getSimpleName());
        }
        return names;
    }

    private static void constants(String face) {
        Set<String> due = new TreeSet<>();
        Matcher line = Pattern.compile("public static final int ([^;]+);").matcher(face);
        while (line.find()) {
            due.addAll(Arrays.asList(line.group(1).split(", ")));
        }
        Set<String> got = new TreeSet<>();
        for (Field field : Pledgehouse.class.getDeclaredFields()) {
            int modifiers = field.getModifiers();
            Checks.due("hidden or constant: " + field,
                    Modifier.isPublic(modifiers) != Modifier.isPrivate(modifiers) ? 1 : 0, 1);
            Checks.due("no static state: " + field,
                    Modifier.isStatic(modifiers) && !Modifier.isFinal(modifiers) ? 1 : 0, 0);
            if (Modifier.isPublic(modifiers)) {
                got.add(field.getName() + " = " + valueOf(field));
            }
        }
        same("constants", got, due);
    }

    private static int valueOf(Field field) {
        try {
            return field.getInt(null);
        } catch (IllegalAccessException e) {
            return Integer.MIN_VALUE;
        }
    }

    private static void constructorsAndClasses() {
        Constructor<?>[] constructors = Pledgehouse.class.getDeclaredConstructors();
        Checks.due("one constructor", constructors.length, 1);
        Checks.due("without arguments", constructors[0].getParameterCount(), 0);
        int modifiers = Pledgehouse.class.getModifiers();
        Checks.due("public and final", Modifier.isPublic(modifiers) && Modifier.isFinal(modifiers) ? 1 : 0, 1);
        for (Class<?> inside : Pledgehouse.class.getDeclaredClasses()) {
            Checks.due("not seen: " + inside,
                    inside.getModifiers() & (Modifier.PUBLIC | Modifier.PROTECTED), 0);
            Checks.due("static: " + inside, Modifier.isStatic(inside.getModifiers()) ? 1 : 0, 1);
        }
    }

    /** What ../shared/LANGUAGE.md rules out and a look at the text can tell. */
    private static void source() throws IOException {
        String text = Files.readString(PROGRAM);
        Matcher imports = Pattern.compile("import ([^;]+);").matcher(text);
        while (imports.find()) {
            Checks.due("import " + imports.group(1), imports.group(1).equals("java.util.ArrayList") ? 1 : 0, 1);
        }
        for (String ruledOut : new String[] {"->", "::", "catch", "finally", "synchronized", "assert ", "Exact(",
            "package ", "System.", "static {", ".equals(", "hashCode", "toString"}) {
            Checks.due("ruled out: " + ruledOut, text.indexOf(ruledOut), -1);
        }
    }
}
