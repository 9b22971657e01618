import java.io.IOException;
import java.lang.reflect.Method;
import java.nio.file.Files;
import java.nio.file.Path;
import java.util.List;
import java.util.Set;
import java.util.TreeSet;
import java.util.regex.Matcher;
import java.util.regex.Pattern;
import java.util.stream.Collectors;
import java.util.stream.Stream;

/** The examples of README.md answer what stands behind them, and every test has its row. */
public final class ReadmeTest {
    private static final Pattern CALL = Pattern.compile("guild\\.(\\w+)\\((.*?)\\);\\s*//\\s*(.*)");
    private static final Pattern BLOCK = Pattern.compile("(?s)```java\n(.*?)```");
    private static final Pattern ROW = Pattern.compile("(?m)^\\| `(\\w+Test)` \\|");

    public static void main(String[] args) throws IOException, ReflectiveOperationException {
        String readme = Files.readString(Path.of("README.md"));
        Matcher block = BLOCK.matcher(readme);
        int found = 0;
        while (block.find()) {
            found++;
            example(found, block.group(1).split("\n"));
        }
        Due.is("README.md has examples", true, found > 0);
        testsHaveRows(readme);
        Due.close("ReadmeTest");
    }

    private static void example(int number, String[] lines) throws ReflectiveOperationException {
        Due.under("example " + number + ": ");
        Due.is("it begins with a new object", true, lines[0].equals("ErrandGuild guild = new ErrandGuild();"));
        ErrandGuild guild = new ErrandGuild();
        for (int i = 1; i < lines.length; i++) {
            Matcher call = CALL.matcher(lines[i]);
            boolean isCall = call.matches();
            Due.is(lines[i] + " is a call with its answer", true, isCall);
            if (isCall) {
                answers(guild, call);
            }
        }
        Due.under("");
    }

    private static void answers(ErrandGuild guild, Matcher call) throws ReflectiveOperationException {
        String[] words = call.group(2).isEmpty() ? new String[0] : call.group(2).split(", ");
        Object got = callOf(guild, call.group(1), words);
        if (got != null) {
            boolean isSo = call.group(3).equals(got.toString()) || call.group(3).startsWith(got + ":");
            Due.is(call.group() + " (answered " + got + ") is so", true, isSo);
        }
    }

    private static Object callOf(ErrandGuild guild, String name, String[] words) throws ReflectiveOperationException {
        for (Method m : ErrandGuild.class.getMethods()) {
            if (m.getName().equals(name) && m.getParameterCount() == words.length) {
                Object[] values = new Object[words.length];
                for (int i = 0; i < words.length; i++) {
                    boolean isFlag = m.getParameterTypes()[i] == boolean.class;
                    values[i] = isFlag ? (Object) Boolean.valueOf(words[i]) : (Object) Integer.valueOf(words[i]);
                }
                return m.invoke(guild, values);
            }
        }
        throw new NoSuchMethodException(name);
    }

    private static void testsHaveRows(String readme) throws IOException {
        Set<String> rows = new TreeSet<>();
        Matcher row = ROW.matcher(readme);
        while (row.find()) {
            rows.add(row.group(1));
        }
        try (Stream<Path> files = Files.list(Path.of("src/test/java"))) {
            List<String> tests = files.map(f -> f.getFileName().toString().replace(".java", ""))
                    .filter(f -> f.endsWith("Test")).collect(Collectors.toList());
            Due.is("the table of tests " + rows + " has " + tests, true, rows.equals(new TreeSet<>(tests)));
        }
    }
}
