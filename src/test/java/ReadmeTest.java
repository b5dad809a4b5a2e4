import java.io.IOException;
import java.lang.reflect.Field;
import java.lang.reflect.InvocationTargetException;
import java.lang.reflect.Method;
import java.lang.reflect.Modifier;
import java.nio.file.Files;
import java.nio.file.Path;
import java.util.Arrays;
import java.util.HashSet;
import java.util.List;
import java.util.Set;
import java.util.regex.Matcher;
import java.util.regex.Pattern;

/** That README.md names every call of the face as it is, and that its examples, as one run, answer what they say. */
public final class ReadmeTest {
    private static final String START = "FreightRates freight = new FreightRates();";
    private static final Pattern EXAMPLE =
            Pattern.compile("freight\\.(\\w+)\\(([^)]*)\\);\\s+// (throws \\w+|-?\\d+|[A-Z]+)(?:,? .*)?");

    private static int wrong = 0;

    private static void due(String what, String want, String got) {
        if (!want.equals(got)) {
            wrong++;
            System.out.println(what + ": " + got + ", README.md says " + want);
        }
    }

    public static void main(String[] args) throws IOException {
        List<String> lines = Files.readAllLines(Path.of("README.md"));
        everyCallHasItsHeading(lines);
        everyConstantHasItsNumber(lines);
        everyExampleAnswersWhatItSays(lines);
        if (wrong > 0) {
            System.out.println(wrong + " wrong");
            System.exit(1);
        }
        System.out.println("README.md holds");
    }

    private static void everyCallHasItsHeading(List<String> lines) {
        Set<String> want = new HashSet<>(Set.of("### `FreightRates()`"));
        for (Method call : FreightRates.class.getDeclaredMethods()) {
            if (Modifier.isPublic(call.getModifiers())) {
                want.add("### `int " + call.getName() + "(");
            }
        }
        for (String heading : want) {
            long found = lines.stream().filter(line -> line.startsWith(heading)).count();
            due(heading, "1", Long.toString(found));
        }
        long headings = lines.stream().filter(line -> line.startsWith("### ")).count();
        due("calls in all", Long.toString(headings), Integer.toString(want.size()));
        for (String line : lines) {
            if (line.startsWith("### `int ")) {
                parametersAreInts(line);
            }
        }
    }

    private static void parametersAreInts(String heading) {
        String name = heading.substring("### `int ".length(), heading.indexOf('('));
        String inside = heading.substring(heading.indexOf('(') + 1, heading.indexOf(')'));
        int parameters = inside.isEmpty() ? 0 : inside.split(", ").length;
        due(heading, "a call", callNamed(name, parameters) == null ? "no call" : "a call");
    }

    private static Method callNamed(String name, int parameters) {
        Class<?>[] types = new Class<?>[parameters];
        Arrays.fill(types, int.class);
        try {
            Method call = FreightRates.class.getMethod(name, types);
            return call.getReturnType() == int.class ? call : null;
        } catch (NoSuchMethodException e) {
            return null;
        }
    }

    private static void everyConstantHasItsNumber(List<String> lines) {
        int found = 0;
        for (Field constant : FreightRates.class.getFields()) {
            String row = "| `" + constant.getName() + "` | " + numberOf(constant) + " |";
            long rows = lines.stream().filter(line -> line.startsWith(row)).count();
            due(row, "1", Long.toString(rows));
            found++;
        }
        due("constants", "5", Integer.toString(found));
    }

    private static String numberOf(Field constant) {
        try {
            return Integer.toString(constant.getInt(null));
        } catch (IllegalAccessException e) {
            return "unseen";
        }
    }

    private static void everyExampleAnswersWhatItSays(List<String> lines) {
        FreightRates freight = null;
        boolean inExample = false;
        Set<String> shown = new HashSet<>();
        for (String line : lines) {
            if (line.startsWith("```")) {
                inExample = line.equals("```java");
            } else if (inExample && line.equals(START)) {
                due("the run begins once", "true", Boolean.toString(freight == null));
                freight = new FreightRates();
            } else if (inExample) {
                Matcher example = EXAMPLE.matcher(line);
                if (freight == null || !example.matches()) {
                    due("an example", "a call with its answer", line);
                    continue;
                }
                due(line, example.group(3), answer(freight, example));
                shown.add(example.group(1));
            }
        }
        due("calls with an example", "14", Integer.toString(shown.size()));
    }

    private static String answer(FreightRates freight, Matcher example) {
        String[] inside = example.group(2).isEmpty() ? new String[0] : example.group(2).split(", ");
        Object[] numbers = new Object[inside.length];
        for (int i = 0; i < inside.length; i++) {
            numbers[i] = Integer.valueOf(inside[i]);
        }
        Method call = callNamed(example.group(1), numbers.length);
        if (call == null) {
            return "no such call";
        }
        try {
            int number = (Integer) call.invoke(freight, numbers);
            return example.group(3).matches("[A-Z]+") ? nameOf(number) : Integer.toString(number);
        } catch (InvocationTargetException e) {
            return "throws " + e.getCause().getClass().getSimpleName();
        } catch (IllegalAccessException e) {
            return "not public";
        }
    }

    private static String nameOf(int number) {
        for (Field constant : FreightRates.class.getFields()) {
            if (numberOf(constant).equals(Integer.toString(number))) {
                return constant.getName();
            }
        }
        return Integer.toString(number);
    }
}
