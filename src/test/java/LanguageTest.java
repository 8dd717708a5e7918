import java.io.IOException;
import java.lang.reflect.Constructor;
import java.lang.reflect.Field;
import java.lang.reflect.Method;
import java.lang.reflect.Modifier;
import java.nio.file.Files;
import java.nio.file.Path;
import java.util.ArrayList;
import java.util.List;
import java.util.Set;
import java.util.TreeSet;
import java.util.regex.Matcher;
import java.util.regex.Pattern;

/** Those rules of LANGUAGE.md that can be seen from the text, or from the compiled face. */
public final class LanguageTest {
    private static final String[] FORBIDDEN = {
        "throw", "throws", "try", "catch", "synchronized", "assert", "->", "::", "Exact\\w*\\(", "import static",
        "package", "protected", "record", "Random", "System\\.(?!arraycopy)", "Thread", "nanoTime", "hashCode",
        "(Integer|Long)\\.[A-Z]", "toString\\(\\)\\s*\\{", "while\\s*\\(true\\)"};
    private static final Set<String> FACE = new TreeSet<>(List.of(
        "row", "set", "copy", "drop", "feed", "land", "fault", "undo", "days", "offer", "door", "village",
        "walker", "ahead", "cold", "nights", "freezes", "warn", "lure", "keepsAway", "bid", "rests", "fits",
        "round", "meet", "slept", "late", "year", "image", "restore", "kind", "as", "ask", "trace", "count",
        "status"));

    public static void main(String[] args) throws IOException {
        Path root = Path.of(args.length > 0 ? args[0] : ".");
        String source = Files.readString(root.resolve("src/main/java/WinterWalk.java"));
        String code = source.replaceAll("(?s)/\\*.*?\\*/", " ").replaceAll("//[^\n]*", " ");
        forbiddenWords(code);
        imports(code);
        face();
        insides(WinterWalk.class.getDeclaredClasses());
        lengths(source);
        Due.end("LanguageTest");
    }

    private static void forbiddenWords(String code) {
        for (String word : FORBIDDEN) {
            String bounded = Character.isLetter(word.charAt(0)) ? "\\b" + word : word;
            String pattern = Character.isLetter(word.charAt(word.length() - 1)) ? bounded + "\\b" : bounded;
            Due.due("'" + word + "' in the code", Pattern.compile(pattern).matcher(code).results().count(), 0);
        }
    }

    private static void imports(String code) {
        Matcher matcher = Pattern.compile("import ([^;]*);").matcher(code);
        while (matcher.find()) {
            boolean isListed = Set.of("java.util.Arrays", "java.util.ArrayList", "java.util.List")
                .contains(matcher.group(1));
            Due.due("import " + matcher.group(1), isListed ? 1 : 0, 1);
        }
    }

    private static void face() {
        Set<String> names = new TreeSet<>();
        for (Method method : WinterWalk.class.getDeclaredMethods()) {
            if (method.isSynthetic()) {
                continue;
            }
            if (Modifier.isPublic(method.getModifiers())) {
                names.add(method.getName());
            } else {
                Due.due(method + " is private", Modifier.isPrivate(method.getModifiers()) ? 1 : 0, 1);
                Due.due(method + " bears a name of the face", FACE.contains(method.getName()) ? 1 : 0, 0);
            }
        }
        Due.same("the face", names.toString(), FACE.toString());
        Set<String> constants = new TreeSet<>();
        for (Field field : WinterWalk.class.getDeclaredFields()) {
            if (Modifier.isPublic(field.getModifiers())) {
                constants.add(field.getName());
            } else {
                Due.due(field + " is private", Modifier.isPrivate(field.getModifiers()) ? 1 : 0, 1);
            }
        }
        Due.same("the constants", constants.toString(), "[BAD, FULL, NONE, STATE]");
        Constructor<?>[] constructors = WinterWalk.class.getDeclaredConstructors();
        Due.due("constructors", constructors.length, 1);
        Due.due("final", Modifier.isFinal(WinterWalk.class.getModifiers()) ? 1 : 0, 1);
    }

    private static void insides(Class<?>[] classes) {
        Due.due("at most twelve classes", classes.length <= 11 ? 1 : 0, 1);
        for (Class<?> inside : classes) {
            Due.due(inside + " is static", Modifier.isStatic(inside.getModifiers()) ? 1 : 0, 1);
            int fields = 0;
            for (Field field : inside.getDeclaredFields()) {
                boolean isStatic = Modifier.isStatic(field.getModifiers());
                fields += isStatic ? 0 : 1;
                Due.due(field + " static and not final",
                    isStatic && !Modifier.isFinal(field.getModifiers()) ? 1 : 0, 0);
            }
            Due.due(inside + " has some twenty fields", fields <= 20 ? 1 : 0, 1);
            for (Method method : inside.getDeclaredMethods()) {
                Due.due(method + " bears a name of the face", FACE.contains(method.getName()) ? 1 : 0, 0);
                Due.due(method + " has seven parameters at most", method.getParameterCount() <= 7 ? 1 : 0, 1);
            }
        }
    }

    private static void lengths(String source) {
        List<String> lines = new ArrayList<>(source.lines().toList());
        int start = -1;
        int indent = 0;
        for (int i = 0; i < lines.size(); i++) {
            String line = lines.get(i);
            int spaces = line.length() - line.stripLeading().length();
            if (start < 0 && line.endsWith(") {") && line.strip().matches("(public|private|static|[A-Z]?[a-z]+).*\\(.*")
                    && !line.strip().matches("(if|for|while|switch|else|do)\\b.*")) {
                start = i;
                indent = spaces;
            } else if (start >= 0 && line.strip().equals("}") && spaces == indent) {
                Due.due("lines from " + (start + 1) + " on", i - start <= 60 ? 1 : 0, 1);
                start = -1;
            }
        }
    }
}
