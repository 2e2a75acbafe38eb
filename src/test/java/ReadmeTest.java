import java.io.IOException;
import java.lang.reflect.InvocationTargetException;
import java.lang.reflect.Method;
import java.lang.reflect.Modifier;
import java.nio.file.Files;
import java.nio.file.Path;
import java.util.ArrayList;
import java.util.List;
import java.util.TreeSet;
import java.util.regex.Matcher;
import java.util.regex.Pattern;

/** What README.md says of the answers is what the program answers. Promises 1 to 16. */
public final class ReadmeTest {
    private static final Pattern CALL = Pattern.compile("k\\.(\\w+)\\(([^)]*)\\);\\s*// (-?\\d+|true|false|throws \\w+)(:.*)?");
    private static final String NEW = "KermitLine k = new KermitLine();";

    private static List<String> lines;

    public static void main(String[] args) throws IOException, ReflectiveOperationException {
        lines = Files.readAllLines(Path.of("README.md"));
        everyCall();
        everyMethodIsTold();
        everyRefusalIsTold();
        settings();
        numbersOfAbout();
        numbersOfTold();
        everyTestIsTold();
        Bench.end("ReadmeTest");
    }

    /** The lines of all parts in Java, in their order. */
    private static List<String> javaLines() {
        List<String> found = new ArrayList<>();
        boolean inside = false;
        for (String line : lines) {
            if (line.startsWith("```")) {
                inside = line.equals("```java");
            } else if (inside) {
                found.add(line);
            }
        }
        return found;
    }

    private static void everyCall() throws ReflectiveOperationException {
        TreeSet<String> called = new TreeSet<>();
        KermitLine k = null;
        for (String line : javaLines()) {
            if (line.equals(NEW)) {
                k = new KermitLine();
                continue;
            }
            Matcher call = CALL.matcher(line);
            boolean readable = call.matches() && k != null;
            Bench.same("README.md has a call and its answer in the line " + line, readable, true);
            if (readable) {
                called.add(call.group(1));
                Bench.same("README.md: " + line, answer(k, call.group(1), call.group(2)), call.group(3));
            }
        }
        Bench.same("methods that README.md calls", called, names());
    }

    private static String answer(KermitLine k, String name, String arguments) throws ReflectiveOperationException {
        String[] texts = arguments.split(", ");
        Class<?>[] types = new Class<?>[texts.length];
        Object[] values = new Object[texts.length];
        for (int i = 0; i < texts.length; i++) {
            types[i] = int.class;
            values[i] = Integer.decode(texts[i]);
        }
        try {
            return String.valueOf(KermitLine.class.getMethod(name, types).invoke(k, values));
        } catch (InvocationTargetException e) {
            return "throws " + e.getCause().getClass().getSimpleName();
        }
    }

    private static List<Method> face() {
        List<Method> found = new ArrayList<>();
        for (Method method : KermitLine.class.getDeclaredMethods()) {
            if (Modifier.isPublic(method.getModifiers())) {
                found.add(method);
            }
        }
        return found;
    }

    private static TreeSet<String> names() {
        TreeSet<String> found = new TreeSet<>();
        for (Method method : face()) {
            found.add(method.getName());
        }
        return found;
    }

    private static void everyMethodIsTold() {
        for (Method method : face()) {
            int rows = 0;
            for (String line : lines) {
                Matcher row = Pattern.compile("\\| `" + method.getName() + "\\(([^)]*)\\)` \\|.*").matcher(line);
                if (row.matches()) {
                    rows++;
                    Bench.same("parameters in README.md of " + method.getName(), row.group(1).split(", ").length, method.getParameterCount());
                }
            }
            Bench.same("rows in README.md of " + method.getName(), rows, 1);
        }
    }

    /** How each method refuses stands in the table of 'Which calls are refused', and is so of an END that isn't there. */
    private static void everyRefusalIsTold() throws ReflectiveOperationException {
        for (Method method : face()) {
            String due = "";
            for (String line : section("## Which calls are refused")) {
                if (line.startsWith("| `") && cells(line)[0].contains("`" + method.getName() + "`")) {
                    due = cells(line)[1];
                }
            }
            String arguments = "2" + ", 0".repeat(method.getParameterCount() - 1);
            String got = method.getName().equals("feed") ? feedTooMuch() : answer(new KermitLine(), method.getName(), arguments);
            got = got.startsWith("throws") ? "throws" : got.equals("-1") ? "NONE" : got;
            Bench.same("refusal of " + method.getName() + ", of which README.md says: " + due + "; it", got, due);
        }
    }

    private static String feedTooMuch() {
        KermitLine k = new KermitLine();
        for (int i = 0; i < 155; i++) {
            k.feed(0, 0, 0, 0, 0);
        }
        return "" + k.feed(0, 0, 0, 0, 0);
    }

    /** The lines behind a heading, up to the next one. */
    private static List<String> section(String heading) {
        List<String> found = new ArrayList<>();
        int at = lines.indexOf(heading);
        Bench.same("README.md has " + heading, at >= 0, true);
        for (int i = at + 1; at >= 0 && i < lines.size() && !lines.get(i).startsWith("## "); i++) {
            found.add(lines.get(i));
        }
        return found;
    }

    private static String[] cells(String row) {
        return row.substring(2, row.length() - 2).split(" \\| ");
    }

    /** The rows with a number, or two and .., in the first cell, of the table behind a line. */
    private static List<String[]> rowsBehind(String heading) {
        List<String[]> found = new ArrayList<>();
        int at = lines.indexOf(heading);
        Bench.same("README.md has " + heading, at >= 0, true);
        for (int i = at + 2; at >= 0 && i < lines.size() && lines.get(i).startsWith("|"); i++) {
            if (lines.get(i).matches("\\| \\d.*")) {
                found.add(cells(lines.get(i)));
            }
        }
        return found;
    }

    private static TreeSet<Integer> numbers(String text) {
        TreeSet<Integer> found = new TreeSet<>();
        for (String part : text.split(", ")) {
            String[] bounds = part.split(" \\.\\. ");
            for (int n = Integer.parseInt(bounds[0]); n <= Integer.parseInt(bounds[bounds.length - 1]); n++) {
                found.add(n);
            }
        }
        return found;
    }

    private static void settings() {
        TreeSet<Integer> whats = new TreeSet<>();
        for (String[] row : rowsBehind("SETTINGS, for `set`:")) {
            int what = Integer.parseInt(row[0]);
            int first = Integer.parseInt(row[3]);
            whats.add(what);
            TreeSet<Integer> allowed = numbers(row[2]);
            for (int v = -1; v < 200; v++) {
                int due = allowed.contains(v) ? first : -1;
                Bench.same("README.md: set(0, " + what + ", " + v + ") on a new object", new KermitLine().set(0, what, v), due);
            }
        }
        Bench.same("SETTINGS of README.md", whats, numbers("0 .. 6"));
    }

    private static void numbersOfAbout() {
        TreeSet<Integer> whats = new TreeSet<>();
        for (String[] row : rowsBehind("`about(end, what)`:")) {
            whats.addAll(numbers(row[0]));
        }
        Bench b = new Bench();
        for (int what : whats) {
            b.x.about(0, what);
        }
        Bench.same("numbers that README.md tells of about", whats, numbers("0 .. 17"));
        Bench.throwsNone("about beyond these", () -> b.x.about(0, 18));
    }

    private static void numbersOfTold() {
        TreeSet<Integer> whats = new TreeSet<>();
        for (String[] row : rowsBehind("`told(end, file, what)`:")) {
            whats.addAll(numbers(row[0]));
        }
        Bench b = new Bench();
        b.store(0, "A", "", 0);
        for (int what : whats) {
            b.x.told(0, 0, what);
        }
        Bench.same("numbers that README.md tells of told", whats, numbers("0 .. 15"));
        Bench.throwsNone("told beyond these", () -> b.x.told(0, 0, 16));
    }

    private static void everyTestIsTold() throws IOException {
        String section = String.join("\n", section("## How to run the tests"));
        try (var files = Files.list(Path.of("src/test/java"))) {
            for (Path file : files.sorted().toList()) {
                String name = file.getFileName().toString().replace(".java", "");
                Bench.same("README.md tells of " + name, section.contains("`" + name + "`"), true);
            }
        }
        Matcher told = Pattern.compile("\\w+Test\\b").matcher(String.join("\n", lines));
        while (told.find()) {
            Bench.same(told.group() + " is there", Files.exists(Path.of("src/test/java", told.group() + ".java")), true);
        }
    }
}
