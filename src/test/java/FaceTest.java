import java.lang.reflect.Constructor;
import java.lang.reflect.Field;
import java.lang.reflect.Method;
import java.lang.reflect.Modifier;
import java.nio.file.Files;
import java.nio.file.Path;
import java.util.ArrayList;
import java.util.Arrays;
import java.util.List;
import java.util.TreeSet;

/** The public face of the class is, word for word, that of the document. */
final class FaceTest {
    private static final Path DOCUMENT = Path.of("../shared/DOC.md");

    public static void main(String[] args) throws Exception {
        Class<?> office = LampLeaseOffice.class;
        Check.same("the class is public and final", true,
                Modifier.isPublic(office.getModifiers()) && Modifier.isFinal(office.getModifiers()));
        Check.same("the face", new TreeSet<>(documentFace()).toString(), builtFace().toString());
        Check.same("the other members", "[]", otherVisibleMembers().toString());
        Check.same("private methods with a public name", "[]", privateNamesakes().toString());
        Check.finish();
    }

    private static List<String> documentFace() throws Exception {
        List<String> face = new ArrayList<>();
        boolean inside = false;
        for (String line : Files.readAllLines(DOCUMENT)) {
            if (line.startsWith("public final class")) {
                inside = true;
            } else if (line.equals("}")) {
                inside = false;
            } else if (inside && line.startsWith("    public ")) {
                face.add(withoutParameterNames(line.trim()));
            }
        }
        return face;
    }

    private static String withoutParameterNames(String line) {
        return line.replaceAll("(int|char) \\w+([,)])", "$1$2").replace(";", "");
    }

    private static TreeSet<String> builtFace() {
        TreeSet<String> face = new TreeSet<>();
        for (Constructor<?> made : LampLeaseOffice.class.getDeclaredConstructors()) {
            face.add("public LampLeaseOffice(" + types(made.getParameterTypes()) + ")"
                    + thrown(made.getExceptionTypes()));
        }
        for (Method method : LampLeaseOffice.class.getDeclaredMethods()) {
            if (Modifier.isPublic(method.getModifiers())) {
                face.add("public " + method.getReturnType().getSimpleName() + " " + method.getName()
                        + "(" + types(method.getParameterTypes()) + ")"
                        + thrown(method.getExceptionTypes()));
            }
        }
        return face;
    }

    private static String thrown(Class<?>[] exceptions) {
        return exceptions.length == 0 ? "" : " throws " + types(exceptions);
    }

    private static String types(Class<?>[] types) {
        return String.join(", ",
                Arrays.stream(types).map(Class::getSimpleName).toArray(String[]::new));
    }

    private static List<String> otherVisibleMembers() {
        List<String> others = new ArrayList<>();
        for (Field field : LampLeaseOffice.class.getDeclaredFields()) {
            if (!Modifier.isPrivate(field.getModifiers())) {
                others.add(field.getName());
            }
        }
        for (Method method : LampLeaseOffice.class.getDeclaredMethods()) {
            int modifiers = method.getModifiers();
            if (!Modifier.isPrivate(modifiers) && !Modifier.isPublic(modifiers)) {
                others.add(method.getName());
            }
        }
        return others;
    }

    private static List<String> privateNamesakes() {
        TreeSet<String> names = new TreeSet<>();
        for (Method method : LampLeaseOffice.class.getMethods()) {
            names.add(method.getName());
        }
        List<Class<?>> classes = new ArrayList<>(List.of(LampLeaseOffice.class));
        classes.addAll(List.of(LampLeaseOffice.class.getDeclaredClasses()));
        List<String> namesakes = new ArrayList<>();
        for (Class<?> inside : classes) {
            for (Method method : inside.getDeclaredMethods()) {
                if (Modifier.isPrivate(method.getModifiers()) && names.contains(method.getName())) {
                    namesakes.add(inside.getSimpleName() + "." + method.getName());
                }
            }
        }
        return namesakes;
    }
}
