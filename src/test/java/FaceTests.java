import java.io.IOException;
import java.lang.reflect.Constructor;
import java.lang.reflect.Field;
import java.lang.reflect.Method;
import java.lang.reflect.Modifier;
import java.nio.file.Files;
import java.nio.file.Path;
import java.util.Arrays;
import java.util.HashSet;
import java.util.Set;
import java.util.TreeSet;
import java.util.stream.Collectors;

/** The class has the document's face and no other member that can be seen. */
public final class FaceTests {
    public static void main(String[] args) throws IOException {
        Set<String> due = faceOf(Path.of("../shared/DOC.md"));
        Due.count(due.size() == 48, "48 members are due, the document has " + due.size());
        Set<String> got = new TreeSet<>();
        for (Constructor<?> made : PlateAndPoint.class.getDeclaredConstructors()) {
            got.add("PlateAndPoint(" + kindsOf(made.getParameterTypes()) + ")" + throwsOf(made.getExceptionTypes()));
        }
        Set<String> names = new HashSet<>();
        for (Method method : PlateAndPoint.class.getDeclaredMethods()) {
            if (Modifier.isPublic(method.getModifiers())) {
                got.add(method.getReturnType().getSimpleName() + " " + method.getName() + "("
                        + kindsOf(method.getParameterTypes()) + ")" + throwsOf(method.getExceptionTypes()));
                names.add(method.getName());
            }
        }
        Due.count(got.equals(due), "the face is " + got + ", due is " + due);
        Due.count(Modifier.isFinal(PlateAndPoint.class.getModifiers()), "the class is not final");
        hiddenIsPrivate(names);
        Due.end();
    }

    private static void hiddenIsPrivate(Set<String> names) {
        for (Field field : PlateAndPoint.class.getDeclaredFields()) {
            Due.count(Modifier.isPrivate(field.getModifiers()), field + " is not private");
        }
        privateAreNamedApart(PlateAndPoint.class, names);
        for (Method method : PlateAndPoint.class.getDeclaredMethods()) {
            int modifiers = method.getModifiers();
            Due.count(Modifier.isPublic(modifiers) || Modifier.isPrivate(modifiers), method + " is not private");
        }
        for (Class<?> inside : PlateAndPoint.class.getDeclaredClasses()) {
            int modifiers = inside.getModifiers();
            Due.count(!Modifier.isPublic(modifiers) && !Modifier.isProtected(modifiers), inside + " can be seen");
            privateAreNamedApart(inside, names);
        }
    }

    private static void privateAreNamedApart(Class<?> owner, Set<String> names) {
        for (Method method : owner.getDeclaredMethods()) {
            if (Modifier.isPrivate(method.getModifiers())) {
                Due.count(!names.contains(method.getName()), method + " bears the name of a public one");
            }
        }
    }

    private static Set<String> faceOf(Path document) throws IOException {
        Set<String> face = new TreeSet<>();
        for (String line : Files.readAllLines(document)) {
            if (line.startsWith("    public ")) {
                face.add(plain(line.trim()));
            }
        }
        return face;
    }

    /** Without the word public, the names of the parameters, and the order of the exceptions. */
    private static String plain(String line) {
        int open = line.indexOf('(');
        int close = line.indexOf(')');
        String kinds = Arrays.stream(line.substring(open + 1, close).split(", "))
                .map(parameter -> parameter.split(" ")[0])
                .collect(Collectors.joining(","));
        String rest = line.substring(close + 1).replace(";", "").replace("throws", "").trim();
        Set<String> thrown = new TreeSet<>(Arrays.asList(rest.split(", ")));
        return line.substring("public ".length(), open) + "(" + kinds + ") " + String.join(",", thrown);
    }

    private static String kindsOf(Class<?>[] kinds) {
        return Arrays.stream(kinds).map(Class::getSimpleName).collect(Collectors.joining(","));
    }

    private static String throwsOf(Class<?>[] thrown) {
        return " " + Arrays.stream(thrown).map(Class::getSimpleName).sorted().collect(Collectors.joining(","));
    }
}
