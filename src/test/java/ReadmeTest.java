import java.io.IOException;
import java.lang.reflect.Method;
import java.lang.reflect.Modifier;
import java.nio.charset.StandardCharsets;
import java.nio.file.Files;
import java.nio.file.Path;
import java.util.ArrayList;
import java.util.List;
import java.util.Set;
import java.util.TreeSet;
import java.util.regex.Matcher;
import java.util.regex.Pattern;

/** What README.md tells of answers: its texts with their faults, the refusals, the example. */
public final class ReadmeTest {
    private static final Path README = Path.of("README.md");
    private static final Pattern TEXT_ROW = Pattern.compile("\\| `([^`]*)` \\| (-?\\d+) \\| (-?\\d+) \\|.*");
    private static final Pattern REFUSAL_ROW = Pattern.compile("\\| `([A-Z]+)` \\| (-\\d+) \\|.*");
    private static final Pattern CALL_ROW = Pattern.compile("\\| (`\\w+\\([^|]*) \\|.*");
    private static final Pattern TOLD_TEXT = Pattern.compile("String text = \"([^\"]*)\";");
    private static final Pattern CALL = Pattern.compile("well\\.(\\w+)\\(([^)]*)\\); +// (-?\\d+|[A-Z]+)\\b.*");
    private static int asked = 0;
    private static int wrong = 0;

    private static void due(long want, String call, long got) {
        asked++;
        if (want != got) {
            tell(call + " answered " + got + ", README.md tells " + want);
        }
    }

    private static void tell(String what) {
        wrong++;
        System.out.println(what);
    }

    public static void main(String[] args) throws ReflectiveOperationException, IOException {
        List<String> lines = Files.readAllLines(README, StandardCharsets.UTF_8);
        texts(lines);
        refusals(lines);
        callsAreListed(lines);
        example(lines);
        System.out.println(asked + " answers of README.md, " + wrong + " wrong");
        if (wrong != 0) {
            System.exit(1);
        }
    }

    private static void feed(UnsaidWell well, String text) {
        for (int i = 0; i < text.length(); i++) {
            well.feed(text.charAt(i));
        }
    }

    private static void texts(List<String> lines) {
        Set<Integer> kinds = new TreeSet<>();
        for (String line : lines) {
            Matcher row = TEXT_ROW.matcher(line);
            if (row.matches()) {
                UnsaidWell well = new UnsaidWell();
                feed(well, row.group(1));
                int answer = Integer.parseInt(row.group(2));
                due(answer, "yard() of '" + row.group(1) + "'", well.yard());
                due(Integer.parseInt(row.group(3)), "fault() of '" + row.group(1) + "'", well.fault());
                kinds.add(Math.min(answer, 0));
            }
        }
        if (!kinds.containsAll(Set.of(0, -11, -12, -13, -14))) {
            tell("not every kind of fault has a text in README.md");
        }
    }

    private static int constant(String name) throws ReflectiveOperationException {
        return UnsaidWell.class.getField(name).getInt(null);
    }

    private static void refusals(List<String> lines) throws ReflectiveOperationException {
        List<String> names = new ArrayList<>();
        for (String line : lines) {
            Matcher row = REFUSAL_ROW.matcher(line);
            if (row.matches()) {
                names.add(row.group(1));
                due(Integer.parseInt(row.group(2)), row.group(1), constant(row.group(1)));
            }
        }
        if (!names.equals(List.of("UNKNOWN", "OUTSIDE", "NOT", "FULL"))) {
            tell("README.md does not tell the refusals in their order: " + names);
        }
    }

    private static Set<String> namesOfTheFace() {
        Set<String> names = new TreeSet<>();
        for (Method m : UnsaidWell.class.getDeclaredMethods()) {
            if (Modifier.isPublic(m.getModifiers())) {
                names.add(m.getName());
            }
        }
        return names;
    }

    private static void callsAreListed(List<String> lines) {
        Set<String> listed = new TreeSet<>();
        for (String line : lines) {
            Matcher row = CALL_ROW.matcher(line);
            if (row.matches()) {
                Matcher call = Pattern.compile("`(\\w+)\\(").matcher(row.group(1));
                while (call.find()) {
                    listed.add(call.group(1));
                }
            }
        }
        if (!listed.equals(namesOfTheFace())) {
            tell("README.md lists other calls than the class has: " + listed);
        }
    }

    private static void example(List<String> lines) throws ReflectiveOperationException {
        UnsaidWell well = new UnsaidWell();
        Set<String> used = new TreeSet<>();
        int start = lines.indexOf("```java");
        boolean ends = false;
        for (int i = start + 1; start >= 0 && i < lines.size() && !ends; i++) {
            String line = lines.get(i).trim();
            ends = line.equals("```");
            Matcher text = TOLD_TEXT.matcher(line);
            Matcher call = CALL.matcher(line);
            if (text.matches()) {
                feed(well, text.group(1));
                used.add("feed");
            } else if (call.matches()) {
                used.add(call.group(1));
                due(answerTold(call.group(3)), line, made(well, call.group(1), call.group(2)));
            } else if (line.startsWith("well.") && !line.startsWith("well.feed(")) {
                tell("README.md tells no answer: " + line);
            }
        }
        if (!ends || !used.equals(namesOfTheFace())) {
            tell("the example of README.md does not use every call: " + used);
        }
    }

    private static int answerTold(String told) throws ReflectiveOperationException {
        return Character.isUpperCase(told.charAt(0)) ? constant(told) : Integer.parseInt(told);
    }

    private static int made(UnsaidWell well, String name, String arguments) throws ReflectiveOperationException {
        String[] parts = arguments.isEmpty() ? new String[0] : arguments.split(", ");
        Class<?>[] types = new Class<?>[parts.length];
        Object[] values = new Object[parts.length];
        for (int i = 0; i < parts.length; i++) {
            boolean isTruth = parts[i].equals("true") || parts[i].equals("false");
            types[i] = isTruth ? boolean.class : int.class;
            values[i] = isTruth ? (Object) Boolean.valueOf(parts[i]) : (Object) Integer.valueOf(parts[i]);
        }
        return (Integer) UnsaidWell.class.getMethod(name, types).invoke(well, values);
    }
}
