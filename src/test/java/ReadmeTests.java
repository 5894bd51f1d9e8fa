import java.lang.reflect.Method;
import java.lang.reflect.Modifier;
import java.nio.file.Files;
import java.nio.file.Path;
import java.util.List;
import java.util.regex.Matcher;
import java.util.regex.Pattern;
import java.util.stream.Stream;

/** README.md holds: its calls, made in their order on one object, answer what stands behind them. */
public final class ReadmeTests {
    private static final Pattern CALL = Pattern.compile("town\\.(\\w+)\\(([^)]*)\\);\\s*// (-?\\d+)(:.*)?");
    private static final int LEAST_CALLS = 30;
    private static int wrong = 0;

    private static void must(boolean holds, String what) {
        if (!holds) {
            wrong++;
            System.out.println(what);
        }
    }

    public static void main(String[] args) throws Exception {
        String readme = Files.readString(Path.of("README.md"));
        int calls = runCalls(readme);
        must(calls >= LEAST_CALLS, "README.md has only " + calls + " calls");
        for (Method method : StylePapers.class.getDeclaredMethods()) {
            if (Modifier.isPublic(method.getModifiers())) {
                Pattern inTable = Pattern.compile("(?m)^\\|.*`" + method.getName() + "\\(");
                must(inTable.matcher(readme).find(), "README.md's table has no " + method.getName());
            }
        }
        for (Path test : testsIn(Path.of("src/test/java"))) {
            String name = test.getFileName().toString().replace(".java", "");
            must(readme.contains("- `" + name + "`:"), "README.md does not tell of " + name);
        }
        System.out.println(wrong == 0 ? calls + " calls of README.md answer as it says" : wrong + " faults of README.md");
        if (wrong != 0) {
            System.exit(1);
        }
    }

    private static int runCalls(String readme) throws Exception {
        StylePapers town = new StylePapers();
        int calls = 0;
        for (String line : readme.split("\n")) {
            if (line.startsWith("town.")) {
                Matcher call = CALL.matcher(line);
                must(call.matches(), "no call with its answer: " + line);
                if (call.matches()) {
                    calls++;
                    long got = answer(town, call.group(1), call.group(2));
                    must(got == Long.parseLong(call.group(3)), line + " -- answered " + got);
                }
            }
        }
        return calls;
    }

    private static long answer(StylePapers town, String name, String inside) throws Exception {
        String[] told = inside.isEmpty() ? new String[0] : inside.split(", ");
        Class<?>[] types = new Class<?>[told.length];
        Object[] values = new Object[told.length];
        for (int i = 0; i < told.length; i++) {
            types[i] = int.class;
            values[i] = told[i].startsWith("'") ? (Object) (int) told[i].charAt(1) : (Object) Integer.parseInt(told[i]);
        }
        return ((Number) StylePapers.class.getMethod(name, types).invoke(town, values)).longValue();
    }

    private static List<Path> testsIn(Path folder) throws Exception {
        try (Stream<Path> files = Files.list(folder)) {
            return files.filter(file -> file.toString().endsWith(".java")).sorted().toList();
        }
    }
}
