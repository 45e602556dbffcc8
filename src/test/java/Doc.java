import java.io.IOException;
import java.nio.file.Files;
import java.nio.file.Path;
import java.util.ArrayList;
import java.util.BitSet;
import java.util.LinkedHashMap;
import java.util.List;
import java.util.Map;

/** The document, chapter by chapter, and which of its words a test has quoted. */
final class Doc {
    private static final Path FILE = Path.of("../shared/DOC.md");

    private final Map<String, String> chapters = new LinkedHashMap<>();
    private final Map<String, BitSet> quoted = new LinkedHashMap<>();

    Doc() throws IOException {
        if (!Files.exists(FILE)) {
            System.out.println(FILE + " is not here: that the tests' quotes stand in it is not looked at");
            return;
        }
        for (String chapter : Files.readString(FILE).split("(?m)^## ")) {
            int end = chapter.indexOf('\n');
            String name = chapter.substring(0, end).replaceAll(":.*", "").trim();
            chapters.put(name, words(chapter.substring(end)));
            quoted.put(name, new BitSet());
        }
    }

    // What is no sentence goes out: fences, the lines between sections, signatures, the interface's headings.
    private static String words(String chapter) {
        return chapter
            .replaceAll("```\\w*", " ")
            .replaceAll("======== \\d", " ")
            .replaceAll("(?m)^`[^`]*\\)`:", " ")
            .replaceAll("(?m)^Ahead of the calls .*$", " ")
            .replaceAll("\\s+", " ");
    }

    /** Whether the chapter has these words; the first place of them that no test has quoted yet is quoted then. */
    boolean quote(String chapter, String words) {
        if (chapters.isEmpty()) {
            return true;
        }
        String text = chapters.getOrDefault(chapter, "");
        int first = text.indexOf(words);
        if (first < 0) {
            return false;
        }
        BitSet marks = quoted.get(chapter);
        int place = first;
        while (place >= 0 && marks.nextClearBit(place) >= place + words.length()) {
            place = text.indexOf(words, place + 1);
        }
        int from = place < 0 ? first : place;
        marks.set(from, from + words.length());
        return true;
    }

    /** The words of a chapter that no test has quoted; signs alone are none. */
    List<String> unquoted(String chapter) {
        List<String> all = new ArrayList<>();
        if (chapters.isEmpty()) {
            return all;
        }
        String text = chapters.getOrDefault(chapter, "(there is no such chapter)");
        BitSet marks = quoted.getOrDefault(chapter, new BitSet());
        for (int from = marks.nextClearBit(0); from < text.length();) {
            int set = marks.nextSetBit(from);
            int until = set < 0 ? text.length() : set;
            String words = text.substring(from, until);
            if (words.matches(".*[A-Za-z0-9].*")) {
                all.add(words.trim());
            }
            from = marks.nextClearBit(until);
        }
        return all;
    }
}
