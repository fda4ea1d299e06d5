import java.lang.reflect.Method;
import java.lang.reflect.Modifier;
import java.nio.file.Files;
import java.nio.file.Path;
import java.util.regex.Matcher;
import java.util.regex.Pattern;
import java.util.stream.Stream;

/** README.md: its calls answer what stands behind them, and it names every call and every test. */
public final class ReadmeTest {
    private static final Pattern BLOCK = Pattern.compile("(?s)```java\n(.*?)```");
    private static final Pattern CALL = Pattern.compile("maps\\.(\\w+)\\(([^()]*)\\); +// (-?\\d+): .+");
    private static final Pattern FED = Pattern.compile("for \\(char sign : \"(.*)\"\\.toCharArray\\(\\)\\) maps\\.feed\\(sign\\);");

    private static long answer(RefusalMaps maps, String name, String numbers) throws Exception {
        String[] told = numbers.isEmpty() ? new String[0] : numbers.split(", ");
        for (Method method : RefusalMaps.class.getMethods()) {
            if (!method.getName().equals(name) || method.getParameterCount() != told.length) continue;
            Object[] given = new Object[told.length];
            for (int i = 0; i < told.length; i++) {
                boolean isLong = method.getParameterTypes()[i] == long.class;
                if (isLong) given[i] = Long.valueOf(told[i]); else given[i] = Integer.valueOf(told[i]);
            }
            return ((Number) method.invoke(maps, given)).longValue();
        }
        throw new IllegalArgumentException("no call " + name + "(" + numbers + ")");
    }

    private static int runBlock(String block) throws Exception {
        RefusalMaps maps = new RefusalMaps();
        int calls = 0;
        for (String line : block.split("\n")) {
            Matcher call = CALL.matcher(line);
            Matcher fed = FED.matcher(line);
            if (call.matches()) {
                calls++;
                Due.due("README.md: " + line, answer(maps, call.group(1), call.group(2)), Long.parseLong(call.group(3)));
            } else if (fed.matches()) {
                for (char sign : fed.group(1).toCharArray()) maps.feed(sign);
            } else if (!line.equals("RefusalMaps maps = new RefusalMaps();")) {
                Due.wrong("README.md has a line without its answer: " + line);
            }
        }
        return calls;
    }

    private static void expect(String page, String wanted) {
        if (page.contains(wanted)) Due.right(); else Due.wrong("README.md does not name " + wanted);
    }

    public static void main(String[] args) throws Exception {
        Path root = Path.of(args.length > 0 ? args[0] : "src/main/java/RefusalMaps.java").toAbsolutePath().resolve("../../../..").normalize();
        String page = Files.readString(root.resolve("README.md"));
        int calls = 0;
        Matcher block = BLOCK.matcher(page);
        while (block.find()) calls += runBlock(block.group(1));
        if (calls < 40) Due.wrong("README.md shows " + calls + " calls");
        for (Method method : RefusalMaps.class.getDeclaredMethods()) {
            if (Modifier.isPublic(method.getModifiers())) expect(page, "`" + method.getName() + "`");
        }
        try (Stream<Path> files = Files.list(root.resolve("src/test/java"))) {
            for (Path file : files.toList()) {
                String name = file.getFileName().toString();
                if (name.endsWith("Test.java")) expect(page, "| " + name.replace(".java", "") + " |");
            }
        }
        Due.end();
    }
}
