import java.io.IOException;

/**
 * Each sentence of the document that names a boundary: a test of its own, told by the sentence's words. A sentence
 * of the document that is neither tested here nor told to name no boundary is an error.
 */
public final class BoundaryTest {
    private static final String[] NAME_NO_BOUNDARY = {
        "Guilds.", "Stations.", "Order.", "The day.", "Money.", "The book.", "Exceptions.",
        "Minutes are counted from midnight.",
        "Examples: each one begins with a new object;", "behind each call and = stands its result.",
        "- `guild`: the guild", "- `guild`: the guild that is over then", "- `other`: the other one",
        "- `station`: the station", "- `place`: the place",
        "- `is`: whether it is struck out", "- `is`: whether it has torches then",
        "- `is`: whether there is one then", "- `is`: whether it does",
        "Returns the number.", "Returns the letter of the subject before.", "Returns the minute.", "Returns how many.",
        "Returns whether all of this holds.",
    };

    private BoundaryTest() {
    }

    public static void main(String[] args) throws IOException {
        Document document = new Document();
        new TermsBoundaries(document).run();
        new DayBoundaries(document).run();
        new CallBoundaries(document).run();
        new AnswerBoundaries(document).run();
        new RefusalBoundaries(document).run();
        for (int promise = 1; promise <= 40; promise++) {
            document.tellHead(promise);
        }
        for (String sentence : NAME_NO_BOUNDARY) {
            document.tellPlain(sentence);
        }
        document.finish();
        Check.finish("BoundaryTest");
    }
}
