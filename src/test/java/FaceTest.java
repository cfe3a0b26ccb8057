import java.io.IOException;
import java.lang.reflect.Constructor;
import java.lang.reflect.Field;
import java.lang.reflect.Method;
import java.lang.reflect.Modifier;
import java.nio.charset.StandardCharsets;
import java.nio.file.Files;
import java.nio.file.Path;
import java.util.Arrays;
import java.util.Set;
import java.util.TreeSet;
import java.util.regex.Matcher;
import java.util.regex.Pattern;

/** The public face, held against the document's own, and what LANGUAGE.md forbids in the file. */
public final class FaceTest {
    private static final Path DOCUMENT = Path.of("../shared/DOC.md");
    private static final String[] FORBIDDEN = {
        "->", "::", "\\bfinally\\b", "\\bcatch\\b", "\\bsynchronized\\b", "\\bassert\\b", "\\bObject\\b", "\\bSystem\\.(?!arraycopy)",
        "\\bString\\.", "\\bDouble\\b", "\\bFloat\\b", "Exact\\(", "\\bthrow (?!new )", "\\bnew Random\\b", "\\bpackage\\b", "\\bstatic \\{",
        "import (?!java\\.util\\.NoSuchElementException;)", "\\bequals\\b", "\\bhashCode\\b", "\\btoString\\b", "[^\\x00-\\x7f]"
    };

    public static void main(String[] args) throws IOException {
        Set<String> due = faceOfTheDocument();
        Set<String> names = new TreeSet<>();
        Set<String> face = new TreeSet<>();
        Class<?> type = NapkinSyntax.class;
        Due.is("the class is public and final", true, () -> Modifier.isPublic(type.getModifiers()) && Modifier.isFinal(type.getModifiers()));
        for (Constructor<?> constructor : type.getDeclaredConstructors()) {
            face.add(headOf("", "NapkinSyntax", constructor.getParameterTypes(), constructor.getExceptionTypes()));
        }
        for (Method method : type.getDeclaredMethods()) {
            if (Modifier.isPublic(method.getModifiers())) {
                names.add(method.getName());
                face.add(headOf(method.getReturnType().getSimpleName() + " ", method.getName(), method.getParameterTypes(),
                    method.getExceptionTypes()));
            }
        }
        Due.is("the face has 41 parts", 41, () -> due.size());
        Due.is("the face is the document's", due, () -> face);
        Due.is("nothing else is seen", "[]", () -> seenBeside(type));
        Due.is("no other method has a name of the face", "[]", () -> namesAgain(type, names));
        if (args.length > 0) {
            rules(Files.readString(Path.of(args[0]), StandardCharsets.UTF_8));
        }
        Due.close("FaceTest");
    }

    private static Set<String> faceOfTheDocument() throws IOException {
        Set<String> face = new TreeSet<>();
        Matcher head = Pattern.compile("(?m)^    public (.*\\(.*\\).*);$").matcher(Files.readString(DOCUMENT));
        while (head.find()) {
            face.add(head.group(1).replaceAll("(\\w+) \\w+(?=[,)][^(]*\\)|\\))", "$1"));
        }
        return face;
    }

    private static String headOf(String type, String name, Class<?>[] parameters, Class<?>[] thrown) {
        return type + name + "(" + namesOf(parameters) + ")" + (thrown.length == 0 ? "" : " throws " + namesOf(thrown));
    }

    private static String namesOf(Class<?>[] types) {
        return String.join(", ", Arrays.stream(types).map(Class::getSimpleName).toArray(String[]::new));
    }

    private static Set<String> seenBeside(Class<?> type) {
        Set<String> seen = new TreeSet<>();
        for (Field field : type.getDeclaredFields()) {
            if (!Modifier.isPrivate(field.getModifiers())) {
                seen.add(field.getName());
            }
            if (Modifier.isStatic(field.getModifiers()) && !Modifier.isFinal(field.getModifiers())) {
                seen.add("static " + field.getName());
            }
        }
        for (Method method : type.getDeclaredMethods()) {
            if (!Modifier.isPublic(method.getModifiers()) && !Modifier.isPrivate(method.getModifiers())) {
                seen.add(method.getName());
            }
        }
        for (Class<?> inside : type.getDeclaredClasses()) {
            if (!Modifier.isStatic(inside.getModifiers()) || Modifier.isPublic(inside.getModifiers())) {
                seen.add(inside.getSimpleName());
            }
        }
        return seen;
    }

    private static Set<String> namesAgain(Class<?> type, Set<String> names) {
        Set<String> again = new TreeSet<>();
        for (Method method : type.getDeclaredMethods()) {
            if (!Modifier.isPublic(method.getModifiers()) && names.contains(method.getName())) {
                again.add(method.getName());
            }
        }
        for (Class<?> inside : type.getDeclaredClasses()) {
            for (Method method : inside.getDeclaredMethods()) {
                if (names.contains(method.getName())) {
                    again.add(inside.getSimpleName() + "." + method.getName());
                }
            }
        }
        return again;
    }

    private static void rules(String source) {
        String code = source.replaceAll("(?s)/\\*.*?\\*/", "").replaceAll("//[^\n]*", "");
        for (String forbidden : FORBIDDEN) {
            Due.is("LANGUAGE.md: " + forbidden, false, () -> Pattern.compile(forbidden).matcher(code).find());
        }
        Due.is("LANGUAGE.md 11: short methods", "[]", () -> longMethods(code));
    }

    /** A method ends with a brace as far in as its head is. */
    private static Set<String> longMethods(String code) {
        Set<String> found = new TreeSet<>();
        String head = "";
        int start = 0;
        String[] lines = code.split("\n");
        for (int i = 0; i < lines.length; i++) {
            if (lines[i].matches("^( {4}| {8})[\\w ].*\\)( throws .*)? \\{$") && !lines[i].matches(" *(if|for|while|switch) .*")) {
                head = lines[i];
                start = i;
            }
            String end = head.replaceAll("\\S.*", "}");
            if (!head.isEmpty() && lines[i].equals(end)) {
                if (i - start > 60) {
                    found.add(head.trim());
                }
                head = "";
            }
        }
        return found;
    }
}
