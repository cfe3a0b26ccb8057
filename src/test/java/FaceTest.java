import java.io.IOException;
import java.lang.reflect.Constructor;
import java.lang.reflect.Field;
import java.lang.reflect.Method;
import java.lang.reflect.Modifier;
import java.nio.file.Files;
import java.nio.file.Path;
import java.util.Arrays;
import java.util.Set;
import java.util.TreeSet;
import java.util.regex.Matcher;
import java.util.regex.Pattern;

/** The public face, held against the document's own; nothing else may be seen (LANGUAGE.md, rule 1). */
public final class FaceTest {
    private static final Path DOCUMENT = Path.of("../shared/DOC.md");

    public static void main(String[] args) throws IOException {
        Set<String> due = faceOfTheDocument();
        Set<String> names = new TreeSet<>();
        Set<String> face = new TreeSet<>();
        Class<?> type = NapkinSyntax.class;
        Due.is("the class is public and final", true, () -> Modifier.isPublic(type.getModifiers()) && Modifier.isFinal(type.getModifiers()));
        for (Constructor<?> constructor : type.getDeclaredConstructors()) {
            face.add(headOf("", "NapkinSyntax", constructor.getParameterTypes(), constructor.getExceptionTypes()));
        }
        for (Method method : type.getDeclaredMethods()) {
            if (Modifier.isPublic(method.getModifiers())) {
                names.add(method.getName());
                face.add(headOf(method.getReturnType().getSimpleName() + " ", method.getName(), method.getParameterTypes(),
                    method.getExceptionTypes()));
            }
        }
        Due.is("the face has 41 parts", 41, () -> due.size());
        Due.is("the face is the document's", due, () -> face);
        Due.is("nothing else is seen", "[]", () -> seenBeside(type));
        Due.is("no other method has a name of the face", "[]", () -> namesAgain(type, names));
        Due.close("FaceTest");
    }

    private static Set<String> faceOfTheDocument() throws IOException {
        Set<String> face = new TreeSet<>();
        Matcher head = Pattern.compile("(?m)^    public (.*\\(.*\\).*);$").matcher(Files.readString(DOCUMENT));
        while (head.find()) {
            face.add(head.group(1).replaceAll("(\\w+) \\w+(?=[,)][^(]*\\)|\\))", "$1"));
        }
        return face;
    }

    private static String headOf(String type, String name, Class<?>[] parameters, Class<?>[] thrown) {
        return type + name + "(" + namesOf(parameters) + ")" + (thrown.length == 0 ? "" : " throws " + namesOf(thrown));
    }

    private static String namesOf(Class<?>[] types) {
        return String.join(", ", Arrays.stream(types).map(Class::getSimpleName).toArray(String[]::new));
    }

    private static Set<String> seenBeside(Class<?> type) {
        Set<String> seen = new TreeSet<>();
        for (Field field : type.getDeclaredFields()) {
            if (!Modifier.isPrivate(field.getModifiers())) {
                seen.add(field.getName());
            }
            if (Modifier.isStatic(field.getModifiers()) && !Modifier.isFinal(field.getModifiers())) {
                seen.add("static " + field.getName());
            }
        }
        for (Method method : type.getDeclaredMethods()) {
            if (!method.isSynthetic() && !Modifier.isPublic(method.getModifiers()) && !Modifier.isPrivate(method.getModifiers())) {
                seen.add(method.getName());
            }
        }
        for (Class<?> inside : type.getDeclaredClasses()) {
            if (Modifier.isPublic(inside.getModifiers()) || Modifier.isProtected(inside.getModifiers())) {
                seen.add(inside.getSimpleName());
            }
        }
        return seen;
    }

    private static Set<String> namesAgain(Class<?> type, Set<String> names) {
        Set<String> again = new TreeSet<>();
        for (Method method : type.getDeclaredMethods()) {
            if (!Modifier.isPublic(method.getModifiers()) && names.contains(method.getName())) {
                again.add(method.getName());
            }
        }
        return again;
    }
}
