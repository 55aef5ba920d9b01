import java.io.IOException;
import java.lang.reflect.InvocationTargetException;
import java.lang.reflect.Method;
import java.lang.reflect.Modifier;
import java.nio.file.DirectoryStream;
import java.nio.file.Files;
import java.nio.file.Path;
import java.util.ArrayList;
import java.util.Arrays;
import java.util.List;
import java.util.Map;
import java.util.TreeMap;
import java.util.TreeSet;
import java.util.regex.Matcher;
import java.util.regex.Pattern;

/**
 * README.md says what the class does: its example is called line by line, and its tables are held
 * against the class. It is read from the directory in which the test is run, the project's root.
 */
public final class ReadmeTest {
    private static final Pattern EXAMPLE_CALL =
            Pattern.compile("(?:(int|long) \\w+ = )?gas\\.(\\w+)\\(([^)]*)\\); +// (.+)");
    private static final Pattern ANSWER = Pattern.compile("(-?\\d+) .*");
    private static final Pattern CALL_ROW = Pattern.compile("\\| `(\\w+)\\(([^)]*)\\)` \\|.+\\|");
    private static final Pattern RANGE_ROW =
            Pattern.compile("\\| (`\\w+`.*?) \\| (\\d+|`from`) \\| (\\d+) \\|");
    private static final Pattern TEST_ROW = Pattern.compile("\\| `(\\w+Test)` \\|.+\\|");
    private static final Pattern QUOTED = Pattern.compile("`(\\w+)`");

    /** What stands before the first call of the example. */
    private static final String EXAMPLE_START = "MakeupGas gas = new MakeupGas();";

    /** The day from which the last day is told, where that is not the argument tested. */
    private static final int FROM = 7;

    private final List<String> lines;
    private final Map<String, Method> methods = new TreeMap<>();
    private final Map<String, String[]> arguments = new TreeMap<>();
    private final Map<String, String[]> ranges = new TreeMap<>();

    private ReadmeTest(List<String> lines) {
        this.lines = lines;
        for (Method method : MakeupGas.class.getDeclaredMethods()) {
            if (Modifier.isPublic(method.getModifiers())) {
                methods.put(method.getName(), method);
            }
        }
    }

    public static void main(String[] args) throws IOException, IllegalAccessException {
        ReadmeTest test = new ReadmeTest(Files.readAllLines(Path.of("README.md")));
        test.theExample();
        test.theCalls();
        test.theRanges();
        test.theTests();
        Checks.finish();
    }

    /** Each line's comment begins with the answer; that of set, which answers nothing, doesn't. */
    private void theExample() throws IllegalAccessException {
        int start = lines.indexOf("```java") + 1;
        Checks.holds("the example starts with a new object",
                start > 0 && lines.get(start).equals(EXAMPLE_START));
        MakeupGas gas = new MakeupGas();
        int called = 0;
        for (int at = start + 1; !lines.get(at).equals("```"); at++) {
            Matcher line = EXAMPLE_CALL.matcher(lines.get(at));
            boolean read = line.matches() && methods.containsKey(line.group(2));
            Checks.holds("a call of the example: " + lines.get(at), read);
            if (read) {
                exampleLine(gas, line);
                called++;
            }
        }
        Checks.holds("the example calls: " + called, called > 10);
    }

    private void exampleLine(MakeupGas gas, Matcher line) throws IllegalAccessException {
        Method method = methods.get(line.group(2));
        Matcher answer = ANSWER.matcher(line.group(4));
        String type = method.getReturnType().getName();
        Checks.holds("the type in: " + line.group(), line.group(1) == null || line.group(1).equals(type));
        String want = answer.matches() && !type.equals("void") ? answer.group(1) : "null";
        Checks.equal(line.group(), answer(gas, method, numbers(line.group(3))), want);
    }

    /** The table of calls names each method of the class once, with as many arguments. */
    private void theCalls() {
        List<String> named = new ArrayList<>();
        for (String line : lines) {
            Matcher row = CALL_ROW.matcher(line);
            if (row.matches()) {
                named.add(row.group(1));
                arguments.put(row.group(1), names(row.group(2)));
            }
        }
        named.sort(null);
        Checks.equal("the calls in the table", named.toString(), methods.keySet().toString());
        for (String call : named) {
            Method method = methods.get(call);
            if (method != null) {
                Checks.equal("arguments of " + call, arguments.get(call).length, method.getParameterCount());
            }
        }
    }

    /** Every argument has a range: its ends are not refused, the numbers beside them are. */
    private void theRanges() throws IllegalAccessException {
        readRanges();
        for (Map.Entry<String, String[]> call : arguments.entrySet()) {
            Method method = methods.get(call.getKey());
            if (method != null && haveRanges(call.getKey(), call.getValue())) {
                for (int which = 0; which < call.getValue().length; which++) {
                    oneRange(method, call.getValue(), which);
                }
            }
        }
    }

    private void readRanges() {
        for (String line : lines) {
            Matcher row = RANGE_ROW.matcher(line);
            if (row.matches()) {
                String[] range = {row.group(2), row.group(3)};
                String[] parts = row.group(1).split(" of ");
                for (String name : quoted(parts[0])) {
                    for (String call : parts.length > 1 ? quoted(parts[1]) : List.of("")) {
                        String[] known = ranges.put(call + " " + name, range);
                        Checks.holds("one range only of " + call + " " + name, known == null);
                    }
                }
            }
        }
    }

    private boolean haveRanges(String call, String[] names) {
        boolean all = true;
        for (String name : names) {
            Checks.holds("a range of " + name + " of " + call, rangeOf(call, name) != null);
            all &= rangeOf(call, name) != null;
        }
        return all;
    }

    private String[] rangeOf(String call, String name) {
        String[] own = ranges.get(call + " " + name);
        return own != null ? own : ranges.get(" " + name);
    }

    /** One argument at its ends and beside them, the others at the lowest that then fits. */
    private void oneRange(Method method, String[] names, int which) throws IllegalAccessException {
        String call = method.getName();
        boolean bound = rangeOf(call, names[which])[0].equals("`from`");
        int lowest = bound ? FROM : Integer.parseInt(rangeOf(call, names[which])[0]);
        int highest = Integer.parseInt(rangeOf(call, names[which])[1]);
        for (int value : new int[] {lowest - 1, lowest, highest, highest + 1}) {
            int from = names[which].equals("from") ? value : FROM;
            Object[] values = new Object[names.length];
            for (int other = 0; other < names.length; other++) {
                String low = rangeOf(call, names[other])[0];
                boolean days = names[other].equals("from") || low.equals("`from`");
                values[other] = days ? from : Integer.parseInt(low);
            }
            values[which] = value;
            String got = answer(new MakeupGas(), method, values);
            boolean refused = got.equals("IllegalArgumentException");
            boolean due = value < lowest || value > highest;
            Checks.holds(call + Arrays.toString(values) + " is " + got, refused == due);
        }
    }

    /** The table of tests names each test class of the project. */
    private void theTests() throws IOException {
        TreeSet<String> named = new TreeSet<>();
        for (String line : lines) {
            Matcher row = TEST_ROW.matcher(line);
            if (row.matches()) {
                named.add(row.group(1));
            }
        }
        TreeSet<String> there = new TreeSet<>();
        try (DirectoryStream<Path> files =
                Files.newDirectoryStream(Path.of("src/test/java"), "*Test.java")) {
            for (Path file : files) {
                there.add(file.getFileName().toString().replace(".java", ""));
            }
        }
        Checks.equal("the tests in the table", named.toString(), there.toString());
    }

    private static String answer(MakeupGas gas, Method method, Object[] values)
            throws IllegalAccessException {
        try {
            return String.valueOf(method.invoke(gas, values));
        } catch (InvocationTargetException thrown) {
            return thrown.getCause().getClass().getSimpleName();
        }
    }

    private static Object[] numbers(String list) {
        String[] texts = names(list);
        Object[] numbers = new Object[texts.length];
        for (int at = 0; at < texts.length; at++) {
            numbers[at] = Integer.valueOf(texts[at]);
        }
        return numbers;
    }

    private static String[] names(String list) {
        return list.isEmpty() ? new String[0] : list.split(", ");
    }

    private static List<String> quoted(String text) {
        List<String> found = new ArrayList<>();
        Matcher each = QUOTED.matcher(text);
        while (each.find()) {
            found.add(each.group(1));
        }
        return found;
    }
}
