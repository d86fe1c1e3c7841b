import java.io.File;
import java.io.IOException;
import java.lang.reflect.Method;
import java.lang.reflect.Modifier;
import java.nio.file.Files;
import java.nio.file.Path;
import java.util.Set;
import java.util.TreeSet;
import java.util.regex.Matcher;
import java.util.regex.Pattern;

/** README.md as it stands: its example is run line by line, and it names what there is, and nothing else. */
public final class ReadmeTest {
    private static final Due due = new Due();
    private static final Pattern SHOWN = Pattern.compile("desk\\.(\\w+)\\(([^)]*)\\); *// (-?\\w+)");

    private static long ask(HallDesk desk, String name, String numbers) throws ReflectiveOperationException {
        String[] parts = numbers.isEmpty() ? new String[0] : numbers.split(", *");
        Class<?>[] types = new Class<?>[parts.length];
        Object[] given = new Object[parts.length];
        for (int i = 0; i < parts.length; i++) {
            types[i] = int.class;
            given[i] = Integer.valueOf(parts[i]);
        }
        return ((Number) HallDesk.class.getMethod(name, types).invoke(desk, given)).longValue();
    }

    private static long valueOf(String told) throws ReflectiveOperationException {
        return Character.isLetter(told.charAt(0)) ? HallDesk.class.getField(told).getInt(null) : Long.parseLong(told);
    }

    private static void example(String readme) throws ReflectiveOperationException {
        int from = readme.indexOf("```java");
        String block = readme.substring(from, readme.indexOf("```", from + 3));
        HallDesk desk = new HallDesk();
        int lines = 0;
        for (String line : block.split("\n")) {
            Matcher m = SHOWN.matcher(line);
            if (m.find()) {
                lines++;
                due.is("README: " + line.strip(), ask(desk, m.group(1), m.group(2)), valueOf(m.group(3)));
            }
        }
        // The fence and the line that makes the desk show no answer.
        due.is("lines of the example with an answer", lines, block.split("\n").length - 2);
    }

    private static void calls(String readme) {
        for (Method m : HallDesk.class.getDeclaredMethods()) {
            if (Modifier.isPublic(m.getModifiers())) {
                Matcher found = Pattern.compile("`" + m.getName() + "\\(([^)]*)\\)`").matcher(readme);
                boolean named = found.find();
                due.isTrue("README names the call " + m.getName(), named);
                int numbers = !named || found.group(1).isEmpty() ? 0 : found.group(1).split(",").length;
                due.is("numbers of " + m.getName() + " in README", numbers, m.getParameterCount());
            }
        }
    }

    private static Set<String> namesIn(String text, String form) {
        Set<String> names = new TreeSet<>();
        Matcher m = Pattern.compile(form).matcher(text);
        while (m.find()) {
            names.add(m.group(1));
        }
        return names;
    }

    private static void tests(String readme) {
        Set<String> there = new TreeSet<>();
        for (String file : new File("src/test/java").list()) {
            there.add(file.replaceFirst("\\.java$", ""));
        }
        Set<String> named = namesIn(readme, "`(\\w+Test|Due|Edge|PlainDesk)`");
        due.isTrue("README names the tests " + there + ", names " + named, named.equals(there));
    }

    private static void classes(String readme) {
        Set<String> there = new TreeSet<>();
        for (Class<?> inside : HallDesk.class.getDeclaredClasses()) {
            there.add(inside.getSimpleName());
        }
        Set<String> named = namesIn(readme, "(?m)^\\| `([A-Z]\\w*)` \\|");
        due.isTrue("README names the classes " + there + ", names " + named, named.equals(there));
    }

    public static void main(String[] args) throws IOException, ReflectiveOperationException {
        String readme = Files.readString(Path.of("README.md"));
        example(readme);
        calls(readme);
        tests(readme);
        classes(readme);
        due.end("ReadmeTest");
    }
}
