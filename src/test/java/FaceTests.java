import java.io.IOException;
import java.lang.reflect.Constructor;
import java.lang.reflect.Field;
import java.lang.reflect.Method;
import java.lang.reflect.Modifier;
import java.nio.file.Files;
import java.nio.file.Path;
import java.util.Arrays;
import java.util.HashSet;
import java.util.List;
import java.util.Set;
import java.util.TreeSet;
import java.util.regex.Matcher;
import java.util.regex.Pattern;

/** The public face as the document tells it, and the rules of the language that a text can show. */
public final class FaceTests {
    private static final Check CHECK = new Check("FaceTests");
    private static final Path SOURCE = Path.of("src/main/java/MovedMembers.java");
    private static final String[] FACE = {
        "int letter(int)", "int blank()", "int fault()", "int type()", "int drop()", "int hollow(int, boolean)",
        "int of(int, int)", "int has(int, int)", "int answer(int, int, int)", "int body(int, int)",
        "int trace(int, int, int)", "int event(int, int, int, int)", "int why(int, int, boolean)",
        "int where(int, int, boolean)", "int move(int, int, boolean)", "int undo()", "int moves(int)",
        "int contract(int)", "int fit(int, int)", "int common(int)", "int dead(int)", "int count(int)",
        "long digest()"};
    private static final String[] CONSTANTS = {"FULL -1004", "NONE -1", "OUTSIDE -1002", "STATE -1003", "UNKNOWN -1001"};
    private static final List<String> BARRED = List.of("throw", "throws", "try", "catch", "finally", "synchronized",
        "assert", "import", "package", "protected", "->", "::", "hashCode", "toString", "Random", "System.out",
        "System.nano", "System.current", "Thread", "Object");

    public static void main(String[] args) throws Exception {
        methods();
        constants();
        constructors();
        nestedClasses();
        source();
        CHECK.end();
    }

    private static void methods() {
        Set<String> found = new TreeSet<>();
        Set<String> names = new HashSet<>();
        for (Method method : MovedMembers.class.getDeclaredMethods()) {
            if (Modifier.isPublic(method.getModifiers())) {
                StringBuilder types = new StringBuilder();
                for (Class<?> type : method.getParameterTypes()) {
                    types.append(types.length() == 0 ? "" : ", ").append(type.getName());
                }
                found.add(method.getReturnType().getName() + " " + method.getName() + "(" + types + ")");
                names.add(method.getName());
                CHECK.holds(method.getName() + " is of the object", !Modifier.isStatic(method.getModifiers()));
            }
        }
        CHECK.holds("the public methods: " + found, found.equals(new TreeSet<>(Arrays.asList(FACE))));
        for (Method method : MovedMembers.class.getDeclaredMethods()) {
            boolean isPrivate = Modifier.isPrivate(method.getModifiers());
            CHECK.holds(method.getName() + " is public or private", isPrivate || Modifier.isPublic(method.getModifiers()));
            CHECK.holds(method.getName() + " bears no public name", !isPrivate || !names.contains(method.getName()));
            CHECK.holds(method.getName() + " takes seven at most", method.getParameterCount() <= 7);
        }
    }

    private static void constants() throws IllegalAccessException {
        Set<String> found = new TreeSet<>();
        for (Field field : MovedMembers.class.getDeclaredFields()) {
            int kind = field.getModifiers();
            if (!Modifier.isPrivate(kind)) {
                CHECK.holds(field.getName() + " is a public constant",
                    Modifier.isPublic(kind) && Modifier.isStatic(kind) && Modifier.isFinal(kind));
                found.add(field.getName() + " " + field.getInt(null));
            }
            CHECK.holds(field.getName() + " is no static state", !Modifier.isStatic(kind) || Modifier.isFinal(kind));
        }
        CHECK.holds("the constants: " + found, found.equals(new TreeSet<>(Arrays.asList(CONSTANTS))));
    }

    private static void constructors() {
        Constructor<?>[] all = MovedMembers.class.getDeclaredConstructors();
        CHECK.due("one constructor", all.length, 1);
        CHECK.holds("it is public, of nothing", Modifier.isPublic(all[0].getModifiers()) && all[0].getParameterCount() == 0);
        int kind = MovedMembers.class.getModifiers();
        CHECK.holds("the class is public and final", Modifier.isPublic(kind) && Modifier.isFinal(kind));
    }

    private static void nestedClasses() {
        Class<?>[] all = MovedMembers.class.getDeclaredClasses();
        CHECK.holds("twelve classes at most", all.length + 1 <= 12);
        for (Class<?> nested : all) {
            int kind = nested.getModifiers();
            CHECK.holds(nested.getName() + " is static, not public",
                Modifier.isStatic(kind) && !Modifier.isPublic(kind) && !Modifier.isProtected(kind));
            int own = 0;
            for (Field field : nested.getDeclaredFields()) {
                own += Modifier.isStatic(field.getModifiers()) ? 0 : 1;
                CHECK.holds(field.getName() + " is no static state",
                    !Modifier.isStatic(field.getModifiers()) || Modifier.isFinal(field.getModifiers()));
            }
            CHECK.holds(nested.getName() + " has twenty fields at most", own <= 20);
        }
    }

    private static void source() throws IOException {
        String text = Files.readString(SOURCE);
        String code = text.replaceAll("(?s)/\\*.*?\\*/", " ").replaceAll("//[^\n]*", " ");
        for (String word : BARRED) {
            boolean isName = Character.isLetter(word.charAt(0));
            Matcher found = Pattern.compile(isName ? "\\b" + Pattern.quote(word) + "\\b" : Pattern.quote(word)).matcher(code);
            CHECK.holds("the source is without " + word, !found.find());
        }
        Set<String> library = new TreeSet<>();
        Matcher call = Pattern.compile("\\b([A-Z][a-z]\\w*)\\.(\\w+)").matcher(code);
        while (call.find()) {
            library.add(call.group());
        }
        CHECK.holds("of the library: " + library, Set.of("Integer.bitCount", "Long.bitCount").containsAll(library));
        for (int n = 0; n < text.length(); n++) {
            if (text.charAt(n) > 126) {
                CHECK.due("a sign of the source", text.charAt(n), 126);
            }
        }
    }
}
