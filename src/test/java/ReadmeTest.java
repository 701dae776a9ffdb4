import java.io.IOException;
import java.lang.reflect.InvocationTargetException;
import java.lang.reflect.Method;
import java.nio.file.DirectoryStream;
import java.nio.file.Files;
import java.nio.file.Path;
import java.util.List;
import java.util.Set;
import java.util.TreeSet;
import java.util.regex.Matcher;
import java.util.regex.Pattern;

/** README.md: each call of its example answers what stands behind it, and it names each test. */
public final class ReadmeTest {
    private static final Check check = new Check("ReadmeTest");
    private static final Pattern CALL = Pattern.compile("\\s*rounds\\.(\\w+)\\(([^()]*)\\);\\s*// (-?[0-9.]+)\\b.*");
    private static final Pattern TABLE_ROW = Pattern.compile("\\| (\\w+Test) \\|.*");
    private static final Set<String> FRAME = Set.of("", "public class Example {", "}",
        "public static void main(String[] args) {", "DoorstepRounds rounds = new DoorstepRounds();");

    public static void main(String[] args) throws IOException {
        List<String> lines = Files.readAllLines(Path.of("README.md"));
        example(lines);
        tables(lines);
        check.end();
    }

    private static void example(List<String> lines) {
        DoorstepRounds rounds = new DoorstepRounds();
        boolean inside = false;
        int calls = 0;
        for (String line : lines) {
            Matcher call = CALL.matcher(line);
            if (line.startsWith("```")) {
                inside = line.equals("```java");
            } else if (inside && call.matches()) {
                calls++;
                check.compare(line.trim(), answer(rounds, call.group(1), call.group(2)), call.group(3));
            } else if (inside) {
                check.dueTrue("'" + line + "' is a call with its answer", FRAME.contains(line.trim()));
            }
        }
        check.dueTrue("README.md has an example", calls > 0);
    }

    private static String answer(DoorstepRounds rounds, String name, String argument) {
        for (Method method : DoorstepRounds.class.getMethods()) {
            if (method.getName().equals(name)) {
                try {
                    return method.invoke(rounds, arguments(argument)).toString();
                } catch (InvocationTargetException e) {
                    return "throws." + e.getCause().getClass().getSimpleName();
                } catch (IllegalAccessException | IllegalArgumentException e) {
                    return "is not called so: " + e;
                }
            }
        }
        return "is no method";
    }

    private static Object[] arguments(String written) {
        if (written.isEmpty()) {
            return new Object[0];
        }
        boolean isSign = written.startsWith("'");
        return new Object[] {isSign ? (int) written.charAt(1) : Integer.parseInt(written)};
    }

    private static void tables(List<String> lines) throws IOException {
        Set<String> named = new TreeSet<>();
        for (String line : lines) {
            Matcher row = TABLE_ROW.matcher(line);
            if (row.matches()) {
                named.add(row.group(1));
            }
        }
        Set<String> there = new TreeSet<>();
        try (DirectoryStream<Path> files = Files.newDirectoryStream(Path.of("src/test/java"), "*Test.java")) {
            for (Path file : files) {
                there.add(file.getFileName().toString().replace(".java", ""));
            }
        }
        check.compare("the tests that README.md names", named.toString(), there.toString());
    }
}
