import java.io.IOException;
import java.lang.reflect.Method;
import java.nio.file.Files;
import java.nio.file.Path;
import java.util.Arrays;
import java.util.Set;
import java.util.TreeSet;
import java.util.regex.Matcher;
import java.util.regex.Pattern;

/** README.md: its table, its calls with their answers, and that it names every call and test. */
public final class ReadmeTest {
    private static final Pattern TABLE = Pattern.compile("```text\n(.*?)```", Pattern.DOTALL);
    private static final Pattern CALL = Pattern.compile("(?m)^x\\.(\\w+)\\((.*)\\); +// (-?\\w+)");

    public static void main(String[] args) throws IOException, ReflectiveOperationException {
        String readme = Files.readString(Path.of("README.md"));
        calls(readme);
        namesEveryCall(readme);
        namesEveryTest(readme);
        Check.finish();
    }

    private static void calls(String readme) throws ReflectiveOperationException {
        Matcher table = TABLE.matcher(readme);
        Check.due("a table is told", table.find(), true);
        LostWords x = Check.told(table.group(1));
        Matcher call = CALL.matcher(readme);
        int found = 0;
        while (call.find()) {
            found++;
            Object got = answer(x, call.group(1), call.group(2));
            Check.due(call.group() + ": " + got, got.toString().equals(call.group(3)), true);
        }
        Check.due("calls are told", found > 20, true);
    }

    private static Object answer(LostWords x, String name, String given) throws ReflectiveOperationException {
        Object[] numbers = Arrays.stream(given.split(", *")).filter(one -> !one.isEmpty())
            .map(one -> one.equals("true") ? (Object) true : (Object) Integer.valueOf(one)).toArray();
        for (Method method : LostWords.class.getMethods()) {
            if (method.getName().equals(name)) {
                return method.invoke(x, numbers);
            }
        }
        return "no such call";
    }

    private static void namesEveryCall(String readme) {
        Set<String> missing = new TreeSet<>();
        for (Method method : LostWords.class.getDeclaredMethods()) {
            if (java.lang.reflect.Modifier.isPublic(method.getModifiers())
                    && !readme.contains("`" + method.getName() + "`")) {
                missing.add(method.getName());
            }
        }
        Check.due("calls that are not told: " + missing, missing.isEmpty(), true);
    }

    private static void namesEveryTest(String readme) throws IOException {
        try (var files = Files.list(Path.of("src/test/java"))) {
            files.map(file -> file.getFileName().toString()).filter(name -> name.endsWith("Test.java"))
                .map(name -> name.substring(0, name.length() - 5))
                .forEach(name -> Check.due(name + " is told", readme.contains("| " + name + " |"), true));
        }
    }
}
