import java.io.IOException;
import java.lang.reflect.InvocationTargetException;
import java.lang.reflect.Method;
import java.lang.reflect.Modifier;
import java.nio.charset.StandardCharsets;
import java.nio.file.Files;
import java.nio.file.Path;
import java.util.ArrayList;
import java.util.List;
import java.util.TreeMap;
import java.util.TreeSet;
import java.util.regex.Matcher;
import java.util.regex.Pattern;

/** README.md tells the class as it is: its example answers so, and its table has each call with what it throws. */
public final class ReadmeTest {
    private static final Pattern STEP = Pattern.compile("(?m)^(?:int loaf = )?house\\.(\\w+)\\(([^)]*)\\); +// (-?\\d+): ");
    private static final Pattern ROW = Pattern.compile("(?m)^\\| `(\\w+)\\(([^)]*)\\)` \\|.*\\|.*\\|(.*)\\|$");
    private static final Pattern THROWN = Pattern.compile("`(\\w+Exception)`");

    public static void main(String[] args) throws IOException {
        Due due = new Due("ReadmeTest");
        String readme = Files.readString(Path.of("README.md"), StandardCharsets.UTF_8);
        int from = readme.indexOf("```java");
        example(due, readme.substring(from, readme.indexOf("```", from + 3)));
        due.same("the calls of the table", face().toString(), table(readme).toString());
        due.end();
    }

    private static void example(Due due, String block) {
        BakeHouse house = new BakeHouse();
        Matcher step = STEP.matcher(block);
        int steps = 0;
        while (step.find()) {
            steps++;
            String name = step.group(1);
            int[] numbers = numbers(step.group(2));
            due.answer(step.group().strip(), Integer.parseInt(step.group(3)), () -> call(house, name, numbers));
        }
        due.holds("each line of the example but the first was run",
            steps > 0 && steps == block.lines().filter(line -> line.contains("house.")).count());
    }

    /** The example's one variable is the number of its one loaf, 0. */
    private static int[] numbers(String written) {
        String[] parts = written.split(", ");
        int[] numbers = new int[parts.length];
        for (int i = 0; i < parts.length; i++) {
            numbers[i] = parts[i].equals("loaf") ? 0 : Integer.parseInt(parts[i]);
        }
        return numbers;
    }

    private static int call(BakeHouse house, String name, int[] numbers) {
        Class<?>[] types = new Class<?>[numbers.length];
        Object[] values = new Object[numbers.length];
        for (int i = 0; i < numbers.length; i++) {
            types[i] = int.class;
            values[i] = numbers[i];
        }
        try {
            return (Integer) BakeHouse.class.getMethod(name, types).invoke(house, values);
        } catch (NoSuchMethodException | IllegalAccessException | InvocationTargetException e) {
            throw new IllegalStateException("the example's call of " + name + " can not be made", e);
        }
    }

    private static TreeMap<String, String> face() {
        TreeMap<String, String> calls = new TreeMap<>();
        for (Method m : BakeHouse.class.getDeclaredMethods()) {
            if (Modifier.isPublic(m.getModifiers())) {
                TreeSet<String> thrown = new TreeSet<>();
                for (Class<?> e : m.getExceptionTypes()) {
                    thrown.add(e.getSimpleName());
                }
                calls.put(m.getName() + " of " + m.getParameterCount(), thrown.toString());
            }
        }
        return calls;
    }

    private static TreeMap<String, String> table(String readme) {
        TreeMap<String, String> calls = new TreeMap<>();
        Matcher row = ROW.matcher(readme);
        while (row.find()) {
            List<String> named = new ArrayList<>();
            Matcher thrown = THROWN.matcher(row.group(3));
            while (thrown.find()) {
                named.add(thrown.group(1));
            }
            calls.put(row.group(1) + " of " + row.group(2).split(", ").length, new TreeSet<>(named).toString());
        }
        return calls;
    }
}
