import java.io.IOException;
import java.lang.reflect.Method;
import java.nio.file.Files;
import java.nio.file.Path;
import java.util.List;
import java.util.Map;
import java.util.Set;
import java.util.TreeSet;
import java.util.regex.Matcher;
import java.util.regex.Pattern;
import java.util.stream.Collectors;
import java.util.stream.Stream;

/** What README.md says: its calls answer as it has it, and it names all tests there are, and no others. */
public final class ReadmeTest {
    private static final Pattern CALL = Pattern.compile("x\\.(\\w+)\\(([-0-9, ]*)\\);\\s+// (-?\\d+|[A-Z]+)\\b.*");
    private static final Pattern TEXT = Pattern.compile("for \\(char sign : \"([^\"]*)\"\\.toCharArray\\(\\)\\) \\{");
    private static final Map<String, Integer> NAMED =
        Map.of("NONE", Due.NONE, "BAD", Due.BAD, "STATE", Due.STATE, "FULL", Due.FULL);
    private static final Set<String> OF_THE_LOOP = Set.of("", "x.feed(sign);", "}");

    private WinterWalk x = null;
    private final Set<String> called = new TreeSet<>();

    public static void main(String[] args) throws IOException, ReflectiveOperationException {
        Path root = Path.of(args.length > 0 ? args[0] : ".");
        String readme = Files.readString(root.resolve("README.md"));
        new ReadmeTest().makeCalls(readme);
        namesOfTests(readme, root.resolve("src/test/java"));
        Due.end("ReadmeTest");
    }

    private void makeCalls(String readme) throws ReflectiveOperationException {
        boolean isJava = false;
        for (String line : readme.lines().toList()) {
            if (line.startsWith("```")) {
                isJava = line.equals("```java");
            } else if (isJava) {
                make(line.strip());
            }
        }
        Set<String> face = Stream.of(WinterWalk.class.getDeclaredMethods())
            .filter(method -> java.lang.reflect.Modifier.isPublic(method.getModifiers()))
            .map(Method::getName).collect(Collectors.toCollection(TreeSet::new));
        face.remove("feed");
        Due.same("the calls that README.md shows", called.toString(), face.toString());
    }

    private void make(String line) throws ReflectiveOperationException {
        Matcher text = TEXT.matcher(line);
        Matcher call = CALL.matcher(line);
        if (line.equals("WinterWalk x = new WinterWalk();")) {
            x = new WinterWalk();
        } else if (text.matches()) {
            Due.feedAll(x, text.group(1));
        } else if (call.matches()) {
            called.add(call.group(1));
            String told = call.group(3);
            long due = NAMED.containsKey(told) ? NAMED.get(told) : Long.parseLong(told);
            Due.due("README.md: " + line, answer(call.group(1), call.group(2)), due);
        } else {
            Due.due("README.md: '" + line + "' is no call that can be held", OF_THE_LOOP.contains(line) ? 0 : 1, 0);
        }
    }

    private long answer(String name, String numbers) throws ReflectiveOperationException {
        List<Integer> given = Stream.of(numbers.split(", ")).filter(number -> !number.isEmpty())
            .map(Integer::valueOf).toList();
        Class<?>[] ints = given.stream().map(number -> int.class).toArray(Class<?>[]::new);
        return ((Number) WinterWalk.class.getMethod(name, ints).invoke(x, given.toArray())).longValue();
    }

    private static void namesOfTests(String readme, Path tests) throws IOException {
        Set<String> told = new TreeSet<>();
        Matcher row = Pattern.compile("(?m)^\\| (\\w+Test) \\|").matcher(readme);
        while (row.find()) {
            told.add(row.group(1));
        }
        try (Stream<Path> files = Files.list(tests)) {
            Set<String> there = files.map(file -> file.getFileName().toString())
                .filter(name -> name.endsWith("Test.java")).map(name -> name.replace(".java", ""))
                .collect(Collectors.toCollection(TreeSet::new));
            Due.same("the tests that README.md names", told.toString(), there.toString());
        }
    }
}
