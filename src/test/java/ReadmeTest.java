import java.io.IOException;
import java.lang.reflect.Method;
import java.lang.reflect.Modifier;
import java.nio.file.Files;
import java.nio.file.Path;
import java.util.Map;
import java.util.regex.Matcher;
import java.util.regex.Pattern;

/** What README.md says of the class: its example answers as told there, and its table has every call. */
public final class ReadmeTest {
    private static final Check CHECK = new Check();
    private static final Pattern CALL = Pattern.compile("w\\.(\\w+)\\((.*)\\); +// ([A-Z]+|-?\\d+):.*");
    private static final Map<String, Integer> CONSTANTS = Map.of("BAD", WallMarbles.BAD, "STATE", WallMarbles.STATE,
        "FULL", WallMarbles.FULL, "NONE", WallMarbles.NONE, "NO", WallMarbles.NO);

    public static void main(String[] args) throws IOException, ReflectiveOperationException {
        String page = Files.readString(Path.of("README.md"));
        example(page);
        table(page);
        CHECK.end();
    }

    private static void example(String page) throws ReflectiveOperationException {
        int from = page.indexOf("```java\n") + "```java\n".length();
        String[] lines = page.substring(from, page.indexOf("```", from)).split("\n");
        CHECK.holds("the example makes an object", lines[0].equals("WallMarbles w = new WallMarbles();"));
        WallMarbles w = new WallMarbles();
        for (int i = 1; i < lines.length; i++) {
            Matcher call = CALL.matcher(lines[i]);
            CHECK.holds("the example has a call with its answer: " + lines[i], call.matches());
            if (call.matches()) {
                CHECK.due(lines[i], answer(w, call.group(1), call.group(2)), number(call.group(3)));
            }
        }
    }

    private static long answer(WallMarbles w, String name, String told) throws ReflectiveOperationException {
        String[] numbers = told.isEmpty() ? new String[0] : told.split(", ");
        Method method = methodOf(name);
        Object[] arguments = new Object[numbers.length];
        for (int i = 0; i < numbers.length; i++) {
            long number = Long.decode(numbers[i].replace("L", ""));
            boolean wide = method.getParameterTypes()[i] == long.class;
            arguments[i] = wide ? (Object) number : (Object) (int) number;
        }
        return ((Number) method.invoke(w, arguments)).longValue();
    }

    private static Method methodOf(String name) {
        for (Method method : WallMarbles.class.getDeclaredMethods()) {
            if (Modifier.isPublic(method.getModifiers()) && method.getName().equals(name)) {
                return method;
            }
        }
        throw new IllegalStateException("README.md calls " + name + ", which is none of the class's");
    }

    private static long number(String told) {
        Integer constant = CONSTANTS.get(told);
        return constant != null ? constant : Long.parseLong(told);
    }

    private static void table(String page) {
        int calls = 0;
        for (Method method : WallMarbles.class.getDeclaredMethods()) {
            if (Modifier.isPublic(method.getModifiers())) {
                calls++;
                int parameters = method.getParameterCount();
                String told = parameters == 0 ? "" : parameters == 1 ? "\\w+" : "\\w+, \\w+";
                Pattern row = Pattern.compile("(?m)^\\| `" + method.getName() + "\\(" + told + "\\)` \\|");
                CHECK.holds("README.md's table has " + method.getName(), row.matcher(page).find());
            }
        }
        long rows = page.lines().filter(line -> line.startsWith("| `")).count();
        CHECK.due("rows of README.md's table", rows, calls);
    }
}
