import java.io.IOException;
import java.lang.reflect.Constructor;
import java.lang.reflect.Field;
import java.lang.reflect.Method;
import java.lang.reflect.Modifier;
import java.nio.charset.StandardCharsets;
import java.nio.file.Files;
import java.nio.file.Path;
import java.util.Arrays;
import java.util.Set;
import java.util.TreeSet;
import java.util.regex.Matcher;
import java.util.regex.Pattern;

/** The face of the document, and those rules of LANGUAGE.md that can be seen from outside or from the text. */
public final class RulesTest {
    private static final String SOURCE = "src/main/java/LargeBubble.java";
    private static final String[] FACE = {
        "int blower(int, int, int, int)", "int of(int, int)", "int set(int, int, int)", "int mix(int, int)",
        "int row(int, int, int)", "int feed(int)", "int square()", "int told(int)", "int pause(int)", "int go(int)",
        "int would(int, int)", "int aim(int, int)", "int cord(int, int)", "int best(int, int)", "int when(int, int)",
        "int day(int, int)", "int most(int)", "int longest(int, int)", "int see(int, int, int)", "int was()",
        "int calm(int)", "long odds(int, int)", "long mean(int, int)", "int book(int, boolean)", "int looked()",
        "int judge(int, int)", "int image()", "int undo()", "int act(int, int, int)", "int trace(int)",
        "int taken(int, int)", "int count(int)", "int tape(int, int, int)", "int item(int, int, long)",
        "long read(int, int)", "int shift(int, int, int, int, int)"};

    public static void main(String[] args) throws IOException {
        face();
        names();
        String text = bare(new String(Files.readAllBytes(Path.of(SOURCE)), StandardCharsets.ISO_8859_1));
        words(text);
        sizes(text);
        Due.end();
    }

    private static void none(String what, Object found) {
        Due.due(what + " " + found, found == null ? 0 : 1, 0);
    }

    private static void face() {
        Set<String> methods = new TreeSet<>();
        for (Method one : LargeBubble.class.getDeclaredMethods()) {
            if (Modifier.isPrivate(one.getModifiers()) || one.isSynthetic()) continue;
            String types = Arrays.toString(one.getParameterTypes());
            methods.add(one.getReturnType() + " " + one.getName() + "(" + types.substring(1, types.length() - 1) + ")");
            Due.due("public, not static: " + one, one.getModifiers(), Modifier.PUBLIC);
        }
        Due.due("the methods of the face " + methods, methods.equals(new TreeSet<>(Arrays.asList(FACE))) ? 1 : 0, 1);
        Set<String> fields = new TreeSet<>();
        for (Field one : LargeBubble.class.getDeclaredFields()) {
            if (!Modifier.isPrivate(one.getModifiers()) && !one.isSynthetic()) fields.add(one.getName());
        }
        Due.due("the constants " + fields, fields.toString().equals("[BAD, FULL, NO, NONE, STATE]") ? 1 : 0, 1);
        Constructor<?>[] constructors = LargeBubble.class.getDeclaredConstructors();
        Due.due("constructors", constructors.length, 1);
        Due.due("the constructor is public", constructors[0].getModifiers(), Modifier.PUBLIC);
        Due.due("the class", LargeBubble.class.getModifiers(), Modifier.PUBLIC | Modifier.FINAL);
    }

    private static void names() {
        Set<String> open = new TreeSet<>();
        for (String one : FACE) open.add(one.substring(one.indexOf(' ') + 1, one.indexOf('(')));
        Class<?>[] inside = LargeBubble.class.getDeclaredClasses();
        Due.due("classes, some twelve", inside.length < 12 ? 1 : 0, 1);
        for (Class<?> one : inside) {
            Due.due("static: " + one, one.getModifiers() & Modifier.STATIC, Modifier.STATIC);
            for (Method method : one.getDeclaredMethods()) none("name", open.contains(method.getName()) ? method : null);
        }
        for (Method one : LargeBubble.class.getDeclaredMethods()) {
            boolean hidden = Modifier.isPrivate(one.getModifiers());
            none("private name", hidden && open.contains(one.getName()) ? one : null);
        }
    }

    /** The text without its comments, texts and signs. */
    private static String bare(String text) {
        return text.replaceAll("(?s)/\\*.*?\\*/", "").replaceAll("//[^\n]*", "")
                .replaceAll("\"[^\"\n]*\"", "\"\"").replaceAll("'[^'\n]+'", "' '");
    }

    private static void words(String text) {
        String[] patterns = {
            "\\b(import|package|protected|throw|throws|try|catch|finally|synchronized|assert|volatile|native|var)\\b",
            "->", "::", "@", "\\bSystem\\.(?!arraycopy\\b)", "\\w+Exact\\b", "\\b(Object|Thread|Class|Random)\\b",
            "\\b(equals|hashCode|toString)\\b", "\\bwhile\\s*\\(\\s*true", "for\\s*\\(\\s*;",
            "static (?!final\\b)(int|long|boolean|char|byte|short|String)(\\[\\])* \\w+( =|;|,)"};
        for (String pattern : patterns) {
            Matcher matcher = Pattern.compile(pattern).matcher(text);
            none(pattern, matcher.find() ? matcher.group() : null);
        }
        none("a sign beyond 126", text.chars().anyMatch(c -> c > 126) ? text : null);
    }

    /** Rule 11: parameters and lines of a method. */
    private static void sizes(String text) {
        Matcher head = Pattern.compile("\n +[\\w\\[\\] ]+ \\w+\\(([^)]*)\\) \\{").matcher(text);
        int heads = 0;
        while (head.find()) {
            heads++;
            Due.due("parameters of " + head.group().trim(), head.group(1).split(",").length <= 7 ? 1 : 0, 1);
            int depth = 1;
            int at = head.end();
            int lines = 1;
            while (depth > 0 && at < text.length()) {
                char sign = text.charAt(at++);
                if (sign == '{') depth++;
                if (sign == '}') depth--;
                if (sign == '\n') lines++;
            }
            Due.due("lines of " + head.group().trim(), lines <= 60 ? 1 : 0, 1);
        }
        Due.due("methods were found", heads > 60 ? 1 : 0, 1);
    }
}
