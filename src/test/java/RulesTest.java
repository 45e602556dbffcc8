import java.io.IOException;
import java.nio.file.Files;
import java.nio.file.Path;
import java.util.LinkedHashMap;
import java.util.List;
import java.util.Map;
import java.util.Set;
import java.util.TreeSet;
import java.util.regex.Matcher;
import java.util.regex.Pattern;

/** What can be seen of LANGUAGE.md in the source itself, and that no call makes an object. */
public final class RulesTest {
    private static final Check CHECK = new Check();
    private static final List<String> RULED_OUT = List.of(
        "throw", "throws", "try", "catch", "finally", "synchronized", "assert", "package", "protected", "float",
        "double", "Object", "Integer", "Long", "Exception", "Thread", "Random", "File", "hashCode", "toString",
        "volatile", "native", "transient", "var", "goto", "yield");

    public static void main(String[] args) throws IOException {
        String source = Files.readString(Path.of("src/main/java/WallMarbles.java"));
        signs(source);
        String code = source.replaceAll("(?s)/\\*.*?\\*/", "").replaceAll("//[^\n]*", "");
        words(code.replaceAll("\"[^\"\n]*\"", "\"\""));
        objects(code);
        Map<String, String> bodies = methods(code);
        depth(bodies);
        CHECK.end();
    }

    private static void signs(String source) {
        CHECK.holds("signs 1 to 127 alone", source.chars().allMatch(c -> c >= 1 && c <= 127));
        for (String line : source.split("\n")) {
            CHECK.holds("a line of 120 signs at most: " + line, line.length() <= 120);
        }
    }

    private static void words(String code) {
        for (String word : RULED_OUT) {
            CHECK.holds("no word " + word, !Pattern.compile("\\b" + word + "\\b").matcher(code).find());
        }
        CHECK.holds("no lambda, no method reference", !code.contains("->") && !code.contains("::"));
        Matcher imports = Pattern.compile("import ([^;]*);").matcher(code);
        while (imports.find()) {
            CHECK.holds("import " + imports.group(1), imports.group(1).equals("java.util.Arrays"));
        }
        Matcher library = Pattern.compile("\\b(Arrays|System|Math)\\.\\w+").matcher(code);
        while (library.find()) {
            CHECK.holds(library.group(), List.of("Arrays.fill", "System.arraycopy", "Math.min", "Math.max").contains(library.group()));
        }
    }

    // All rows are made in the constructor or where a final field stands: 512 calls fill no room.
    private static void objects(String code) {
        int from = code.indexOf("public WallMarbles() {");
        int until = code.indexOf("    }\n", from);
        String rest = code.substring(0, from) + code.substring(until);
        for (String line : rest.split("\n")) {
            if (line.matches(".*\\bnew\\b.*")) {
                CHECK.holds("made once: " + line.trim(), line.matches(" *private final int\\[\\] \\w+ = new int\\[\\w+\\];"));
            }
        }
    }

    // What each method's lines say, by its name; methods of one name in several classes are taken together.
    private static Map<String, String> methods(String code) {
        Map<String, String> bodies = new LinkedHashMap<>();
        String[] lines = code.split("\n");
        Pattern head = Pattern.compile("^( +)(?!.*\\bclass\\b).*\\b(\\w+)\\((.*)\\) \\{$");
        for (int i = 0; i < lines.length; i++) {
            Matcher m = head.matcher(lines[i]);
            if (m.find() && !lines[i].matches(" *(\\} else )?(if|for|while|switch)\\b.*")) {
                StringBuilder body = new StringBuilder();
                int last = i;
                while (last < lines.length && !lines[last].equals(m.group(1) + "}")) {
                    last++;
                    body.append(last < lines.length ? lines[last] : "").append('\n');
                }
                CHECK.holds("sixty lines at most: " + lines[i].trim(), last - i < 60);
                CHECK.holds("seven parameters at most: " + lines[i].trim(), m.group(3).split(",").length <= 7);
                bodies.merge(m.group(2), body.toString(), String::concat);
            }
        }
        return bodies;
    }

    // Rules 8 and 11: three methods call themselves, none calls another in a ring; the rest goes eight deep at most.
    private static void depth(Map<String, String> bodies) {
        Map<String, Set<String>> calls = new LinkedHashMap<>();
        Set<String> recursive = new TreeSet<>();
        bodies.forEach((name, body) -> {
            Set<String> called = new TreeSet<>();
            Matcher call = Pattern.compile("\\b(\\w+)\\(").matcher(body);
            while (call.find()) {
                if (bodies.containsKey(call.group(1))) {
                    called.add(call.group(1));
                }
            }
            if (called.remove(name)) {
                recursive.add(name);
            }
            calls.put(name, called);
        });
        CHECK.holds("these call themselves: " + recursive, recursive.equals(Set.of("rowOf", "rowsToPresent", "markBody")));
        for (String name : calls.keySet()) {
            int deep = deepest(calls, name, 0);
            CHECK.holds(name + " goes eight deep at most: " + deep, deep <= 8);
        }
    }

    // A ring of calls would go on without end: it is told as too deep.
    private static int deepest(Map<String, Set<String>> calls, String name, int above) {
        int deepest = above + 1;
        for (String called : calls.get(name)) {
            if (deepest <= calls.size()) {
                deepest = Math.max(deepest, deepest(calls, called, above + 1));
            }
        }
        return deepest;
    }
}
