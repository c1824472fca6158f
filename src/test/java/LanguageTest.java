import java.lang.reflect.Constructor;
import java.lang.reflect.Field;
import java.lang.reflect.Method;
import java.lang.reflect.Modifier;
import java.nio.charset.StandardCharsets;
import java.nio.file.Files;
import java.nio.file.Path;
import java.util.List;
import java.util.Set;
import java.util.TreeSet;
import java.util.regex.Matcher;
import java.util.regex.Pattern;

/** The class's face is the document's, and its file keeps to those rules of LANGUAGE.md that can be seen by a glance. */
public final class LanguageTest {
    private static final Check check = new Check();
    private static final Set<String> FACE = Set.of(
        "int write(long, int)", "int erase()", "int fault()", "int town()", "int of(int, int)", "int cup(int, int)",
        "int above(int)", "int walk(int, int)", "int flow(int, int)", "int comes(int, int, int, int)",
        "int should(int, int, int, int, int)", "int found(int, int, int, int, boolean)", "int forget()",
        "long chance(int, int)", "long two(int, int, int)", "long worth(int, int, int, int, int)", "int likeliest()",
        "int lacks(int)", "int fewest(int)", "int mean(int)", "int soon(int, int)", "int row(int, int, int, int)",
        "int answers(int, int, int, int)", "int hang(int)", "int day(int, int, int)", "int count(int)");

    public static void main(String[] args) throws Exception {
        theFace();
        theClassesInside();
        theFile(Files.readString(Path.of("src/main/java/UpDrain.java"), StandardCharsets.ISO_8859_1));
        check.end("LanguageTest");
    }

    private static void holds(String what, boolean holds) {
        check.due(what, holds ? 1 : 0, 1);
    }

    private static void theFace() {
        int open = Modifier.PUBLIC | Modifier.FINAL;
        holds("public and final", UpDrain.class.getModifiers() == open);
        Set<String> face = new TreeSet<>();
        for (Method method : UpDrain.class.getDeclaredMethods()) {
            if (!Modifier.isPrivate(method.getModifiers())) {
                holds(method + " is public and no more", method.getModifiers() == Modifier.PUBLIC);
                face.add(signature(method));
            }
        }
        holds("the methods of the face: " + face, face.equals(new TreeSet<>(FACE)));
        Set<String> constants = new TreeSet<>();
        for (Field field : UpDrain.class.getDeclaredFields()) {
            if (!Modifier.isPrivate(field.getModifiers())) {
                holds(field + " is a constant", field.getModifiers() == (open | Modifier.STATIC));
                constants.add(field.getName());
            }
        }
        holds("the constants: " + constants, constants.equals(new TreeSet<>(List.of("NONE", "UNKNOWN", "OUTSIDE", "NOT", "FULL"))));
        Constructor<?>[] constructors = UpDrain.class.getDeclaredConstructors();
        holds("one constructor", constructors.length == 1 && constructors[0].getParameterCount() == 0
            && constructors[0].getModifiers() == Modifier.PUBLIC);
    }

    private static String signature(Method method) {
        StringBuilder types = new StringBuilder();
        for (Class<?> type : method.getParameterTypes()) {
            types.append(types.length() == 0 ? "" : ", ").append(type.getName());
        }
        return method.getReturnType().getName() + " " + method.getName() + "(" + types + ")";
    }

    private static void theClassesInside() {
        Set<String> names = new TreeSet<>();
        for (String signature : FACE) {
            names.add(signature.replaceAll("^\\w+ (\\w+)\\(.*$", "$1"));
        }
        Class<?>[] inside = UpDrain.class.getDeclaredClasses();
        holds("some twelve classes at most", inside.length < 12);
        for (Class<?> one : inside) {
            holds(one + " is static", Modifier.isStatic(one.getModifiers()));
            holds(one + " is not public", !Modifier.isPublic(one.getModifiers()));
            looksRight(one);
            for (Method method : one.getDeclaredMethods()) {
                holds(method + " bears no name of the face", !names.contains(method.getName()));
            }
        }
        looksRight(UpDrain.class);
    }

    private static void looksRight(Class<?> one) {
        int fields = 0;
        for (Field field : one.getDeclaredFields()) {
            if (Modifier.isStatic(field.getModifiers())) {
                holds(field + " is final", Modifier.isFinal(field.getModifiers()));
            } else {
                fields++;
            }
        }
        holds(one + " has twenty fields at most", fields <= 20);
        for (Method method : one.getDeclaredMethods()) {
            holds(method + " takes seven at most", method.getParameterCount() <= 7);
        }
    }

    private static void theFile(String file) {
        String code = file.replaceAll("(?s)/\\*.*?\\*/", "").replaceAll("//[^\n]*", "");
        String[] barred = {
            "throw", "throws", "try", "catch", "finally", "synchronized", "assert", "import", "package", "Object", "System",
            "Thread", "Random", "hashCode", "toString", "\\w+Exact", "->", "::", "\\? extends", "volatile", "native"};
        for (String word : barred) {
            boolean isWord = Character.isLetter(word.charAt(0)) || word.startsWith("\\w");
            Matcher m = Pattern.compile(isWord ? "\\b" + word + "\\b" : word).matcher(code);
            holds("no " + word, !m.find());
        }
        holds("signs up to 126 alone", file.matches("(?s)[\n\\x20-\\x7e]*"));
        methodsAreShort(file.split("\n"));
    }

    /** A method begins with a line that ends in an opening brace and is indented as a member, and ends with its brace. */
    private static void methodsAreShort(String[] lines) {
        int begin = -1;
        String end = "";
        for (int i = 0; i < lines.length; i++) {
            if (begin < 0 && lines[i].matches(" {4}(?: {4})?[^ /*].*\\) \\{")) {
                begin = i;
                end = lines[i].replaceAll("\\S.*", "") + "}";
            } else if (begin >= 0 && lines[i].equals(end)) {
                holds("a short method at line " + (begin + 1), i - begin < 60);
                begin = -1;
            }
        }
    }
}
