import java.io.IOException;
import java.nio.file.Files;
import java.nio.file.Path;
import java.util.List;
import java.util.regex.Matcher;
import java.util.regex.Pattern;

/** What can be seen of LANGUAGE.md in the source itself, and that no call makes an object. */
public final class RulesTest {
    private static final Check CHECK = new Check();
    private static final List<String> RULED_OUT = List.of(
        "throw", "throws", "try", "catch", "finally", "synchronized", "assert", "package", "protected", "float",
        "double", "Object", "Integer", "Long", "Exception", "Thread", "Random", "File", "hashCode", "toString",
        "volatile", "native", "transient", "var", "goto", "yield");

    public static void main(String[] args) throws IOException {
        String source = Files.readString(Path.of("src/main/java/WallMarbles.java"));
        signs(source);
        String code = source.replaceAll("(?s)/\\*.*?\\*/", "").replaceAll("//[^\n]*", "");
        words(code.replaceAll("\"[^\"\n]*\"", "\"\""));
        objects(code);
        methods(code);
        CHECK.end();
    }

    private static void signs(String source) {
        CHECK.holds("signs 1 to 127 alone", source.chars().allMatch(c -> c >= 1 && c <= 127));
        for (String line : source.split("\n")) {
            CHECK.holds("a line of 120 signs at most: " + line, line.length() <= 120);
        }
    }

    private static void words(String code) {
        for (String word : RULED_OUT) {
            CHECK.holds("no word " + word, !Pattern.compile("\\b" + word + "\\b").matcher(code).find());
        }
        CHECK.holds("no lambda, no method reference", !code.contains("->") && !code.contains("::"));
        Matcher imports = Pattern.compile("import ([^;]*);").matcher(code);
        while (imports.find()) {
            CHECK.holds("import " + imports.group(1), imports.group(1).equals("java.util.Arrays"));
        }
        Matcher library = Pattern.compile("\\b(Arrays|System|Math)\\.\\w+").matcher(code);
        while (library.find()) {
            CHECK.holds(library.group(), List.of("Arrays.fill", "System.arraycopy", "Math.min", "Math.max").contains(library.group()));
        }
    }

    // All rows are made in the constructor or where a final field stands: 512 calls fill no room.
    private static void objects(String code) {
        int from = code.indexOf("public WallMarbles() {");
        int until = code.indexOf("    }\n", from);
        String rest = code.substring(0, from) + code.substring(until);
        for (String line : rest.split("\n")) {
            if (line.matches(".*\\bnew\\b.*")) {
                CHECK.holds("made once: " + line.trim(), line.matches(" *private final int\\[\\] \\w+ = new int\\[\\w+\\];"));
            }
        }
    }

    private static void methods(String code) {
        String[] lines = code.split("\n");
        Pattern head = Pattern.compile("^( +)(?!.*\\bclass\\b).*\\((.*)\\) \\{$");
        for (int i = 0; i < lines.length; i++) {
            Matcher m = head.matcher(lines[i]);
            if (m.find() && !lines[i].matches(" *(\\} else )?(if|for|while|switch)\\b.*")) {
                int last = i;
                while (last < lines.length && !lines[last].equals(m.group(1) + "}")) {
                    last++;
                }
                CHECK.holds("sixty lines at most: " + lines[i].trim(), last - i < 60);
                CHECK.holds("seven parameters at most: " + lines[i].trim(), m.group(2).split(",").length <= 7);
            }
        }
    }
}
