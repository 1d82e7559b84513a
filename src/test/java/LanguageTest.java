import java.lang.reflect.Constructor;
import java.lang.reflect.Field;
import java.lang.reflect.Method;
import java.lang.reflect.Modifier;
import java.nio.file.Files;
import java.nio.file.Path;
import java.util.Arrays;
import java.util.Set;
import java.util.TreeSet;
import java.util.regex.Matcher;
import java.util.regex.Pattern;

/** Those rules of LANGUAGE.md that can be seen from the text or the class; the face itself is for FaceTest. */
public final class LanguageTest {
    private static final Path SOURCE = Path.of("src", "main", "java", "NoteThemes.java");
    private static final int LONGEST_METHOD = 60;
    private static final int MOST_CLASSES = 12;
    private static final int MOST_FIELDS = 20;
    private static final int MOST_PARAMETERS = 7;

    public static void main(String[] args) throws Exception {
        members();
        classesInside();
        staticFields();
        String code = withoutComments(Files.readString(SOURCE));
        words(code);
        methodsAreShort(code);
        Check.end();
    }

    private static void members() {
        Check.about("rule 1");
        Set<String> publicNames = new TreeSet<>();
        for (Method method : NoteThemes.class.getDeclaredMethods()) {
            if (!Modifier.isPrivate(method.getModifiers())) {
                publicNames.add(method.getName());
                Check.holds(method + " is public and of the object",
                    Modifier.isPublic(method.getModifiers()) && !Modifier.isStatic(method.getModifiers()));
            }
        }
        for (Method method : NoteThemes.class.getDeclaredMethods()) {
            Check.holds(method + " does not bear the name of a public one",
                !Modifier.isPrivate(method.getModifiers()) || !publicNames.contains(method.getName()));
        }
        Constructor<?>[] constructors = NoteThemes.class.getDeclaredConstructors();
        Check.holds("one public constructor without parameters", constructors.length == 1
            && Modifier.isPublic(constructors[0].getModifiers()) && constructors[0].getParameterCount() == 0);
        Check.holds("public final", Modifier.isPublic(NoteThemes.class.getModifiers())
            && Modifier.isFinal(NoteThemes.class.getModifiers()));
        for (Field field : NoteThemes.class.getDeclaredFields()) {
            Check.holds(field + " is private or a constant of the document",
                Modifier.isPrivate(field.getModifiers()) || Modifier.isPublic(field.getModifiers()));
        }
    }

    private static void classesInside() {
        Check.about("rules 1, 2 and 11");
        Class<?>[] inside = NoteThemes.class.getDeclaredClasses();
        Check.holds("not too many classes", inside.length < MOST_CLASSES);
        for (Class<?> one : inside) {
            int modifiers = one.getModifiers();
            Check.holds(one + " is static and not public", Modifier.isStatic(modifiers)
                && !Modifier.isPublic(modifiers) && !Modifier.isProtected(modifiers));
            Check.holds(one + " has no class inside", one.getDeclaredClasses().length == 0);
            fewMembers(one);
        }
        fewMembers(NoteThemes.class);
    }

    private static void fewMembers(Class<?> one) {
        long fields = Arrays.stream(one.getDeclaredFields()).filter(f -> !Modifier.isStatic(f.getModifiers())).count();
        Check.holds(one + " has few fields", fields <= MOST_FIELDS);
        for (Method method : one.getDeclaredMethods()) {
            Check.holds(method + " has few parameters", method.getParameterCount() <= MOST_PARAMETERS);
            Check.holds(method + " is none of every object's",
                !Set.of("equals", "hashCode", "toString").contains(method.getName()));
        }
    }

    private static void staticFields() {
        Check.about("rule 5");
        for (Class<?> one : NoteThemes.class.getDeclaredClasses()) {
            finalStatics(one);
        }
        finalStatics(NoteThemes.class);
    }

    private static void finalStatics(Class<?> one) {
        for (Field field : one.getDeclaredFields()) {
            Check.holds(field + " is final if it is static",
                !Modifier.isStatic(field.getModifiers()) || Modifier.isFinal(field.getModifiers()));
        }
    }

    private static String withoutComments(String source) {
        String code = source.replaceAll("(?s)/\\*.*?\\*/", "").replaceAll("//[^\n]*", "");
        return code.replaceAll("'(?:[^'\\\\]|\\\\.)'", "0");
    }

    private static void words(String code) {
        Check.about("rules 3, 4, 6 and 10");
        String[] words = {"package", "import", "throw", "throws", "try", "catch", "finally", "synchronized", "assert",
            "double", "float", "Object", "String", "Random", "Thread", "native", "volatile", "transient", "this\\(",
            "while", "static \\{"};
        for (String word : words) {
            Check.holds("no " + word, !Pattern.compile("\\b" + word + "(?!\\w)").matcher(code).find());
        }
        Check.holds("no lambda", !code.contains("->"));
        Check.holds("no method reference", !code.contains("::"));
        Check.holds("no text", !code.contains("\""));
        Check.holds("no annotation", !code.contains("@"));
        Check.holds("no other sign", code.chars().allMatch(c -> c == '\n' || (c >= ' ' && c < 127)));
        Matcher library = Pattern.compile("\\b([A-Z]\\w*[a-z]\\w*)\\.(\\w+)").matcher(code);
        Set<String> allowed = Set.of("Math.abs", "Math.max", "Math.min", "System.arraycopy", "BoardText.NO_FAULT");
        while (library.find()) {
            Check.holds(library.group() + " is of the library that is allowed", allowed.contains(library.group()));
        }
    }

    private static void methodsAreShort(String code) {
        Check.about("rule 11");
        String[] lines = code.split("\n");
        int begin = -1;
        String end = "";
        for (int i = 0; i < lines.length; i++) {
            Matcher head = Pattern.compile("^( +)[\\w\\[\\] ]+\\([^;]*\\) \\{$").matcher(lines[i]);
            if (begin < 0 && head.find()) {
                begin = i;
                end = head.group(1) + "}";
            } else if (begin >= 0 && lines[i].equals(end)) {
                Check.holds(lines[begin].trim() + " is short", i - begin < LONGEST_METHOD);
                begin = -1;
            }
        }
        Check.holds("every method was seen to its end", begin < 0);
    }
}
