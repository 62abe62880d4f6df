import java.lang.reflect.Method;
import java.lang.reflect.Modifier;
import java.nio.file.Files;
import java.nio.file.Path;
import java.util.Set;
import java.util.TreeSet;
import java.util.regex.Matcher;
import java.util.regex.Pattern;

/** The example of README.md: each call must answer what stands behind it, and each call of the face is shown. */
final class ReadmeTests {
    private static final Pattern LINE = Pattern.compile("chart\\.(\\w+)\\((.*)\\); +// (-?\\w+)(:.*)?");

    private ReadmeTests() { }

    static void run(String readme) throws Exception {
        BumpsChart chart = new BumpsChart();
        Set<String> shown = new TreeSet<>();
        for (String line : Files.readAllLines(Path.of(readme))) {
            Matcher m = LINE.matcher(line);
            if (m.matches()) {
                shown.add(m.group(1));
                Check.due("README: " + line, answer(chart, m.group(1), m.group(2)), due(m.group(3)));
            } else {
                Check.holds("README, a call that can be read: " + line, !line.startsWith("chart."));
            }
        }
        Check.same("README shows all calls", shown.toString(), calls().toString());
    }

    private static Set<String> calls() {
        Set<String> names = new TreeSet<>();
        for (Method m : BumpsChart.class.getDeclaredMethods()) {
            if (Modifier.isPublic(m.getModifiers())) {
                names.add(m.getName());
            }
        }
        return names;
    }

    private static int answer(BumpsChart chart, String name, String arguments) throws Exception {
        String[] told = arguments.isEmpty() ? new String[0] : arguments.split(", ");
        Class<?>[] types = new Class<?>[told.length];
        Object[] values = new Object[told.length];
        for (int i = 0; i < told.length; i++) {
            types[i] = int.class;
            values[i] = told[i].startsWith("'") ? told[i].charAt(1) : Integer.parseInt(told[i]);
        }
        return (int) BumpsChart.class.getMethod(name, types).invoke(chart, values);
    }

    private static int due(String told) throws Exception {
        boolean constant = Character.isLetter(told.charAt(0));
        return constant ? BumpsChart.class.getField(told).getInt(null) : Integer.parseInt(told);
    }
}
