import java.io.IOException;
import java.lang.reflect.Constructor;
import java.lang.reflect.Field;
import java.lang.reflect.Method;
import java.lang.reflect.Modifier;
import java.nio.file.Files;
import java.nio.file.Path;
import java.util.Set;
import java.util.TreeSet;
import java.util.regex.Matcher;
import java.util.regex.Pattern;
import java.util.stream.Collectors;
import java.util.stream.Stream;

/** The public face, held against the one that the document shows: each name with its numbers and its answer. */
public final class FaceTest {
    private static final String FACE = """
        public final class WinterWalk {
            public static final int NONE = -1000000, BAD = -1000001, STATE = -1000002, FULL = -1000003;
            public WinterWalk();
            public int row(int row, int lane, int n);
            public int set(int row, int i, int v);
            public int copy(int a, int i, int b, int j, int n);
            public int drop(int row);
            public int feed(int letter);
            public int land();
            public int fault();
            public int undo();
            public int days(int n);
            public int offer(int village, int v);
            public int door(int village, int shut);
            public int village(int village, int what);
            public int walker(int walker, int what);
            public int ahead(int walker, int n, int what);
            public int cold(int n, int what);
            public int nights(int village, int n);
            public int freezes(int village, int n);
            public int warn(int k);
            public int lure(int village, int n);
            public int keepsAway(int village, int n, int what);
            public int bid(int village, int n, int what);
            public int rests(int n);
            public int fits(int walker, int row, int i, int n);
            public int round(int walker);
            public int meet(int n, int what);
            public int slept(int walker, int row, int i, int n, int what);
            public long late(int walker, int p, int n, int village, int what);
            public int year(int n, int seed, int what);
            public int image(int k);
            public int restore(int k);
            public int kind(int one);
            public int as(int one, int kind);
            public int ask(int one, int what);
            public int trace(int i);
            public int count(int what);
            public int status();
        }
        """;

    public static void main(String[] args) throws IOException, IllegalAccessException {
        theClass();
        constants(FACE);
        methods(FACE);
        Path document = Path.of(args.length > 0 ? args[0] : ".").resolve("../shared/DOC.md");
        if (Files.exists(document)) {
            theDocument(Files.readString(document));
        }
        Due.end("FaceTest");
    }

    /** Should the document come to show another face, this test is to be written anew. */
    private static void theDocument(String document) {
        Matcher block = Pattern.compile("(?s)## The public face\\s+```java\\n(.*?)```").matcher(document);
        Due.same("the document's face", block.find() ? block.group(1) : "none", FACE);
        promises(document);
    }

    private static void theClass() {
        int modifiers = WinterWalk.class.getModifiers();
        Due.due("public", Modifier.isPublic(modifiers) ? 1 : 0, 1);
        Due.due("final", Modifier.isFinal(modifiers) ? 1 : 0, 1);
        Due.same("its name", WinterWalk.class.getName(), "WinterWalk");
        Due.same("what is above it", WinterWalk.class.getSuperclass().getName(), "java.lang.Object");
        Due.due("what it implements", WinterWalk.class.getInterfaces().length, 0);
        Constructor<?>[] constructors = WinterWalk.class.getDeclaredConstructors();
        Due.due("constructors", constructors.length, 1);
        Due.due("a public one", Modifier.isPublic(constructors[0].getModifiers()) ? 1 : 0, 1);
        Due.due("of no numbers", constructors[0].getParameterCount(), 0);
    }

    private static void constants(String face) throws IllegalAccessException {
        Set<String> told = new TreeSet<>();
        Matcher constant = Pattern.compile("([A-Z]+) = (-?\\d+)").matcher(face);
        while (constant.find()) {
            told.add("public static final int " + constant.group(1) + " = " + constant.group(2));
        }
        Set<String> there = new TreeSet<>();
        for (Field field : WinterWalk.class.getFields()) {
            there.add(Modifier.toString(field.getModifiers()) + " " + field.getType() + " " + field.getName() + " = "
                + field.getInt(null));
        }
        Due.due("the document's constants", told.size(), 4);
        Due.same("the constants", there.toString(), told.toString());
    }

    private static void methods(String face) {
        Set<String> told = new TreeSet<>();
        Matcher method = Pattern.compile("public (int|long) (\\w+)\\((.*?)\\);").matcher(face);
        while (method.find()) {
            told.add("public " + method.group(1) + " " + method.group(2) + "("
                + method.group(3).replaceAll("int \\w+", "int").replace(" ", "") + ")");
        }
        Set<String> there = Stream.of(WinterWalk.class.getDeclaredMethods())
            .filter(one -> !one.isSynthetic() && !Modifier.isPrivate(one.getModifiers()))
            .map(FaceTest::shape).collect(Collectors.toCollection(TreeSet::new));
        Due.due("the document's calls", told.size(), 36);
        Due.same("the calls", there.toString(), told.toString());
    }

    private static String shape(Method method) {
        String numbers = Stream.of(method.getParameterTypes()).map(Class::getName).collect(Collectors.joining(","));
        return Modifier.toString(method.getModifiers()) + " " + method.getReturnType() + " " + method.getName() + "("
            + numbers + ")";
    }

    /** Promises 2 to 37 tell each call of the face once, in its order. */
    private static void promises(String document) {
        Matcher promise = Pattern.compile("## Promise (\\d+): (\\w+)\\s+`(?:int|long) (\\w+)\\(").matcher(document);
        int number = 1;
        while (promise.find()) {
            number++;
            Due.same("promise " + number, promise.group(1) + " " + promise.group(2), number + " " + promise.group(3));
            String name = promise.group(2);
            boolean isThere = Stream.of(WinterWalk.class.getMethods()).anyMatch(one -> one.getName().equals(name));
            Due.due("promise " + number + " has its call", isThere ? 1 : 0, 1);
        }
        Due.due("promises", number, 37);
    }
}
