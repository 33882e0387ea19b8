import java.lang.reflect.InvocationTargetException;
import java.lang.reflect.Method;
import java.lang.reflect.Modifier;
import java.nio.file.Files;
import java.nio.file.Path;
import java.util.ArrayList;
import java.util.List;
import java.util.Map;
import java.util.Set;
import java.util.TreeMap;
import java.util.TreeSet;
import java.util.regex.Matcher;
import java.util.regex.Pattern;

/** README.md's calls answer what stands behind them; its tables name the whole face and the answers that refuse. */
public final class ReadmeTests {
    private static final Pattern CALL = Pattern.compile("    x\\.(\\w+)\\(([^)]*)\\);\\s+// (true|false|-?\\d+): .*");
    private static final Pattern NAME = Pattern.compile("`(\\w+)`");
    private static final int LEAST = Integer.MIN_VALUE;
    private static final Map<String, Method> FACE = new TreeMap<>();
    private static int wrong = 0;

    private static void due(String what, Object got, Object want) {
        if (!got.equals(want)) {
            wrong++;
            System.out.println(what + ": " + got + ", due is " + want);
        }
    }

    public static void main(String[] args) throws Exception {
        for (Method m : NotchSticks.class.getDeclaredMethods()) {
            if (Modifier.isPublic(m.getModifiers())) {
                FACE.put(m.getName(), m);
            }
        }
        List<String> lines = Files.readAllLines(Path.of("README.md"));
        int calls = example(lines);
        due("calls were found", calls > 20, true);
        due("all that is for something", names(rows(lines, "| What for |")), FACE.keySet());
        refusals(rows(lines, "| Answer |"));
        System.out.println(calls + " calls of README.md, " + wrong + " wrong");
        if (wrong != 0) {
            System.exit(1);
        }
    }

    private static int example(List<String> lines) throws Exception {
        NotchSticks x = new NotchSticks();
        int calls = 0;
        for (String line : lines) {
            Matcher m = CALL.matcher(line);
            if (m.matches()) {
                calls++;
                due(line.strip(), answer(x, m.group(1), m.group(2).split(",\\s*")), m.group(3));
            } else {
                due("a call without its answer: " + line, line.startsWith("    x."), false);
            }
        }
        return calls;
    }

    private static String answer(NotchSticks x, String name, String[] given) throws Exception {
        Method m = FACE.get(name);
        Object[] values = new Object[m.getParameterCount()];
        for (int i = 0; i < values.length; i++) {
            values[i] = m.getParameterTypes()[i] == boolean.class
                ? (Object) Boolean.valueOf(given[i]) : (Object) Integer.decode(given[i]);
        }
        return String.valueOf(m.invoke(x, values));
    }

    private static List<String> rows(List<String> lines, String head) {
        List<String> rows = new ArrayList<>();
        boolean inside = false;
        for (String line : lines) {
            inside = line.startsWith(head) || inside && line.startsWith("|");
            if (inside) {
                rows.add(line);
            }
        }
        return rows;
    }

    private static Set<String> names(List<String> rows) {
        Set<String> names = new TreeSet<>();
        for (String row : rows) {
            Matcher m = NAME.matcher(row);
            while (m.find()) {
                names.add(m.group(1));
            }
        }
        return names;
    }

    /** Each call of a row, with arguments that can't be, answers that row's number (deal: the last of its two). */
    private static void refusals(List<String> rows) throws InvocationTargetException, IllegalAccessException {
        Set<String> left = new TreeSet<>(FACE.keySet());
        left.removeAll(Set.of("state", "safe"));
        for (String row : rows) {
            String[] cells = row.split("\\|");
            Matcher number = Pattern.compile("-\\d+|false").matcher(cells[1]);
            String told = "";
            while (number.find()) {
                told = number.group();
            }
            for (String name : names(List.of(cells[2]))) {
                due(name + " in the table of refusals", refused(name), told);
                left.remove(name);
            }
        }
        due("calls without a row of refusals", left, Set.of());
    }

    private static String refused(String name) throws InvocationTargetException, IllegalAccessException {
        NotchSticks x = new NotchSticks();
        for (int i = 0; i < 20 && name.equals("feed"); i++) {
            x.feed(0, 0, 0, 0, 0);
        }
        Method m = FACE.get(name);
        Object[] values = new Object[m.getParameterCount()];
        for (int i = 0; i < values.length; i++) {
            values[i] = m.getParameterTypes()[i] == boolean.class ? (Object) false : (Object) LEAST;
        }
        return String.valueOf(m.invoke(x, values));
    }
}
