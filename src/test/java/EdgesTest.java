import java.io.IOException;
import java.util.List;

/** All promises, sentence by sentence: the last value that is allowed, the first that is not, refused calls. */
public final class EdgesTest {
    public static void main(String[] args) throws IOException {
        Check check = new Check();
        Doc doc = new Doc();
        for (Edges edges : groups(check, doc)) {
            edges.all();
        }
        everySentence(check, doc);
        check.end();
    }

    private static List<Edges> groups(Check check, Doc doc) {
        return List.of(new TextEdges(check, doc), new MarbleEdges(check, doc), new RowEdges(check, doc),
            new TrialEdges(check, doc), new KindEdges(check, doc));
    }

    private static void everySentence(Check check, Doc doc) {
        everyWord(check, doc, "Terms");
        for (int promise = 1; promise <= 24; promise++) {
            everyWord(check, doc, "Promise " + promise);
        }
    }

    private static void everyWord(Check check, Doc doc, String chapter) {
        List<String> unquoted = doc.unquoted(chapter);
        check.holds(chapter + ": no test quotes " + unquoted, unquoted.isEmpty());
    }
}
