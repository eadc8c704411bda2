import java.io.IOException;
import java.lang.reflect.Method;
import java.nio.file.Files;
import java.nio.file.Path;
import java.util.Arrays;
import java.util.List;
import java.util.Set;
import java.util.TreeSet;
import java.util.regex.Matcher;
import java.util.regex.Pattern;
import java.util.stream.Collectors;
import java.util.stream.Stream;

/** README.md tells what is so: its example's answers, its table of calls, its table of tests. */
public final class ReadmeTest {
    private static final Checks c = new Checks();
    private static final String FACE = "pocket stud tilt late pays feed end text fault law drop foretold start odds write "
            + "scratch which falls nine above among span need habit goal luck run bet watched house seen shoe image back about";
    private static final Pattern STEP = Pattern.compile("wheel\\.(\\w+)\\((.*?)\\); +// (\\S+): .*");
    private static final Pattern ROW = Pattern.compile("\\| (\\d+) \\| `(\\w+)\\((.*)\\)` \\| .* \\| `?([^`|]*)`? \\|");
    private static final Pattern TEST = Pattern.compile("\\| `(\\w+)` \\| .* \\|");

    public static void main(String[] args) throws IOException {
        List<String> page = Files.readAllLines(Path.of("README.md"));
        example(page);
        calls(page);
        tests(page);
        c.close();
    }

    private static int number(String told) {
        if (told.equals("NONE")) {
            return LeaningWheel.NONE;
        }
        if (told.equals("true") || told.equals("false")) {
            return told.equals("true") ? 1 : 0;
        }
        int sum = 0;
        for (String part : told.split(" \\+ ")) {
            sum += Integer.decode(part);
        }
        return sum;
    }

    private static int[] numbers(String told) {
        return told.isEmpty() ? new int[0] : Stream.of(told.split(", ")).mapToInt(ReadmeTest::number).toArray();
    }

    private static void example(List<String> page) {
        int from = page.indexOf("```java");
        int to = page.indexOf("```");
        c.due("an example", from >= 0 && to > from, true);
        c.due("it begins with a wheel", page.get(from + 1).equals("LeaningWheel wheel = new LeaningWheel(37);"), true);
        LeaningWheel wheel = new LeaningWheel(37);
        for (String line : page.subList(from + 2, to)) {
            Matcher step = STEP.matcher(line);
            if (step.matches()) {
                c.due("README: " + line, Calls.answer(wheel, step.group(1), numbers(step.group(2))), number(step.group(3)));
            } else {
                c.due("README, a step: " + line, line.isEmpty(), true);
            }
        }
    }

    private static void calls(List<String> page) {
        List<String> face = Arrays.asList(FACE.split(" "));
        int rows = 0;
        for (String line : page) {
            Matcher row = ROW.matcher(line);
            if (row.matches()) {
                String name = row.group(2);
                c.due("README: promise of " + name, number(row.group(1)), face.indexOf(name) + 2);
                int parameters = row.group(3).isEmpty() ? 0 : row.group(3).split(", ").length;
                c.due("README: parameters of " + name, parameters, method(name).getParameterCount());
                refused(name, parameters, row.group(4));
                rows++;
            }
        }
        c.due("README: calls", rows, face.size());
    }

    private static Method method(String name) {
        return Stream.of(LeaningWheel.class.getDeclaredMethods()).filter(m -> m.getName().equals(name)).findFirst()
                .orElseThrow();
    }

    private static void refused(String name, int parameters, String told) {
        LeaningWheel x = new LeaningWheel(9);
        Calls.type(x, name.equals("feed") ? " ".repeat(300) : "x");
        if (told.equals("never")) {
            c.due("README: refused " + name, x.about(3), Calls.answer(x, name));
            return;
        }
        int[] args = new int[parameters];
        Arrays.fill(args, Integer.MIN_VALUE);
        c.due("README: refused " + name, Calls.answer(x, name, args), number(told));
    }

    private static void tests(List<String> page) throws IOException {
        Set<String> told = new TreeSet<>();
        for (String line : page) {
            Matcher test = TEST.matcher(line);
            if (test.matches()) {
                told.add(test.group(1) + ".java");
            }
        }
        try (Stream<Path> files = Files.list(Path.of("src/test/java"))) {
            Set<String> there = files.map(f -> f.getFileName().toString()).filter(f -> f.endsWith("Test.java"))
                    .collect(Collectors.toCollection(TreeSet::new));
            c.due("README: tests " + told + ", there are " + there, told.equals(there), true);
        }
    }
}
