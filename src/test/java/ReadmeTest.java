import java.lang.reflect.InvocationTargetException;
import java.lang.reflect.Method;
import java.lang.reflect.Modifier;
import java.nio.file.Files;
import java.nio.file.Path;
import java.util.List;
import java.util.TreeSet;
import java.util.regex.Matcher;
import java.util.regex.Pattern;

/**
 * README.md tells the truth: the calls of its examples answer what stands behind them, its table
 * names every public method, and the arguments there are taken up to their edges and refused beyond.
 */
public final class ReadmeTest {
    private static final Pattern CALL = Pattern.compile("desk\\.(\\w+)\\(([^()]*)\\)");
    private static final Pattern ANSWER = Pattern.compile("// (?:answers|prints) (-?\\d+)");
    private static final Pattern ROW = Pattern.compile("\\| `(\\w+)\\(([^()]*)\\)` \\|.*\\|([^|]*)\\|");
    private static final Pattern RANGE = Pattern.compile("`(\\w+)` (\\d+) to (\\d+)");

    private static final Check CHECK = new Check();

    public static void main(String[] args) throws Exception {
        List<String> lines = Files.readAllLines(Path.of("README.md"));
        examples(lines);
        table(lines);
        CHECK.due("the 512 calls are told", String.join(" ", lines).contains("at most 512 calls"), true);
        CHECK.end();
    }

    private static void examples(List<String> lines) throws Exception {
        GuidanceDesk desk = null;
        int answers = 0;
        for (String line : lines) {
            if (line.contains("desk = new GuidanceDesk();")) {
                desk = new GuidanceDesk();
            }
            Matcher call = CALL.matcher(line);
            Matcher answer = ANSWER.matcher(line);
            if (call.find()) {
                Object got = answered(desk, call.group(1), call.group(2).split(", *"));
                if (answer.find()) {
                    answers++;
                    CHECK.due("README.md, " + call.group(), ((Number) got).longValue(),
                            Long.parseLong(answer.group(1)));
                }
            }
        }
        CHECK.due("README.md has examples", answers > 0, true);
    }

    private static Object answered(GuidanceDesk desk, String name, String[] texts) throws Exception {
        Method method = named(name);
        Object[] values = new Object[method.getParameterCount()];
        for (int i = 0; i < values.length; i++) {
            boolean truth = method.getParameterTypes()[i] == boolean.class;
            values[i] = truth ? (Object) Boolean.valueOf(texts[i]) : (Object) number(texts[i]);
        }
        return method.invoke(desk, values);
    }

    /** A number, or some of them moved left and joined, such as 11 << 11 | 3. */
    private static int number(String text) {
        int joined = 0;
        for (String part : text.split("\\|")) {
            String[] moved = part.split("<<");
            int by = moved.length > 1 ? Integer.decode(moved[1].trim()) : 0;
            joined |= Integer.decode(moved[0].trim()) << by;
        }
        return joined;
    }

    private static void table(List<String> lines) throws Exception {
        TreeSet<String> told = new TreeSet<>();
        for (String line : lines) {
            Matcher row = ROW.matcher(line);
            if (row.matches()) {
                told.add(row.group(1));
                ranges(named(row.group(1)), row.group(2).split(", *"), row.group(3));
            }
        }
        TreeSet<String> face = new TreeSet<>();
        for (Method method : GuidanceDesk.class.getDeclaredMethods()) {
            if (Modifier.isPublic(method.getModifiers())) {
                face.add(method.getName());
            }
        }
        CHECK.due("README.md tells " + told + " of " + face, told.equals(face), true);
    }

    private static void ranges(Method method, String[] names, String takes) throws Exception {
        int ranges = 0;
        Matcher range = RANGE.matcher(takes);
        while (range.find()) {
            ranges++;
            int place = List.of(names).indexOf(range.group(1));
            int least = Integer.parseInt(range.group(2));
            int most = Integer.parseInt(range.group(3));
            takes(method, takes, place, least, true);
            takes(method, takes, place, most, true);
            takes(method, takes, place, least - 1, false);
            takes(method, takes, place, most + 1, false);
        }
        int numbers = 0;
        for (Class<?> type : method.getParameterTypes()) {
            numbers += type == int.class ? 1 : 0;
        }
        CHECK.due("README.md tells the ranges of " + method.getName(), ranges, numbers);
    }

    /** A call with one argument as given, and the others at the least that the table tells. */
    private static void takes(Method method, String takes, int place, int value, boolean due) throws Exception {
        Object[] values = new Object[method.getParameterCount()];
        Matcher range = RANGE.matcher(takes);
        for (int i = 0; i < values.length; i++) {
            boolean number = method.getParameterTypes()[i] == int.class && range.find();
            values[i] = number ? (Object) Integer.valueOf(range.group(2)) : (Object) Boolean.TRUE;
        }
        values[place] = value;
        boolean taken = true;
        try {
            method.invoke(new GuidanceDesk(), values);
        } catch (InvocationTargetException e) {
            taken = false;
            CHECK.due(method.getName() + " throws what README.md tells",
                    e.getCause() instanceof IllegalArgumentException, true);
        }
        CHECK.due("README.md, argument " + place + " of " + method.getName() + " is " + value, taken, due);
    }

    private static Method named(String name) {
        for (Method method : GuidanceDesk.class.getDeclaredMethods()) {
            if (Modifier.isPublic(method.getModifiers()) && method.getName().equals(name)) {
                return method;
            }
        }
        throw new IllegalStateException("README.md tells a method that is not there: " + name);
    }
}
