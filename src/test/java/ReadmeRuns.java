import java.lang.reflect.Method;
import java.nio.charset.StandardCharsets;
import java.nio.file.Files;
import java.nio.file.Path;
import java.util.regex.Matcher;
import java.util.regex.Pattern;

/** The calls that README.md shows, each with the answer that it tells behind the call. */
public final class ReadmeRuns {
    private static final Pattern CALL = Pattern.compile("x\\.(\\w+)\\(([-0-9, ]*)\\); *// (-?\\d+).*");
    private static final Pattern PUT = Pattern.compile("put\\(x, \"([^\"]*)\"\\);");

    private ReadmeRuns() {
    }

    private static long answer(SwornDays x, String name, String[] given) throws ReflectiveOperationException {
        for (Method m : SwornDays.class.getMethods()) {
            if (!m.getName().equals(name) || m.getParameterCount() != given.length) {
                continue;
            }
            Object[] args = new Object[given.length];
            for (int i = 0; i < given.length; i++) {
                boolean isLong = m.getParameterTypes()[i] == long.class;
                args[i] = isLong ? (Object) Long.valueOf(given[i]) : (Object) Integer.valueOf(given[i]);
            }
            Object answer = m.invoke(x, args);
            return answer instanceof Boolean b ? (b ? 1 : 0) : ((Number) answer).longValue();
        }
        throw new NoSuchMethodException(name);
    }

    private static void story(String readme) throws ReflectiveOperationException {
        SwornDays x = new SwornDays();
        int calls = 0;
        int begin = readme.indexOf("SwornDays x = new SwornDays();");
        String block = readme.substring(begin, readme.indexOf("```", begin));
        for (String line : block.split("\n")) {
            Matcher call = CALL.matcher(line);
            Matcher put = PUT.matcher(line);
            if (put.matches()) {
                Check.tape(x, put.group(1));
            } else if (call.matches()) {
                String[] given = call.group(2).isEmpty() ? new String[0] : call.group(2).split(", *");
                Check.due("README: " + line, answer(x, call.group(1), given), Long.parseLong(call.group(3)));
                calls++;
            } else {
                Check.due("README: a line that is no call: " + line, line.startsWith("SwornDays x"), true);
            }
        }
        Check.due("README: calls are shown", calls > 20, true);
    }

    private static void everyCallIsNamed(String readme) {
        for (Method m : SwornDays.class.getDeclaredMethods()) {
            if (java.lang.reflect.Modifier.isPublic(m.getModifiers())) {
                Check.due("README names " + m.getName(), readme.contains("`" + m.getName() + "`"), true);
            }
        }
    }

    private static void everyTestIsNamed(String readme, Path tests) throws java.io.IOException {
        try (var files = Files.list(tests)) {
            for (Path file : (Iterable<Path>) files::iterator) {
                String name = file.getFileName().toString().replace(".java", "");
                if (Files.readString(file).contains("static void main(")) {
                    Check.due("README names the test " + name, readme.contains("`" + name + "`"), true);
                }
            }
        }
    }

    public static void main(String[] args) throws java.io.IOException, ReflectiveOperationException {
        // The class's own path is given by .ci/run; without it the test is run from the project's folder.
        Path root = args.length > 0 ? Path.of(args[0]).toAbsolutePath().getParent().resolve("../../..") : Path.of(".");
        String readme = Files.readString(root.resolve("README.md"), StandardCharsets.UTF_8);
        story(readme);
        everyCallIsNamed(readme);
        everyTestIsNamed(readme, root.resolve("src/test/java"));
        Check.end("ReadmeRuns");
    }
}
