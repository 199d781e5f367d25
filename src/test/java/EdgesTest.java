import java.io.IOException;
import java.nio.file.Files;
import java.nio.file.Path;

/** The sentences of the document that name an edge, each with a test of its own. */
public final class EdgesTest {
    private EdgesTest() {
    }

    public static void main(String[] args) throws IOException {
        EdgesOfTexts.all();
        EdgesOfLaws.all();
        EdgesOfCuts.all();
        EdgesOfTime.all();
        EdgesOfAway.all();
        EdgesOfRefusals.all();
        promisesAreQuoted();
        quotesStand();
        System.out.println(Edges.QUOTES.size() + " sentences, " + Edges.answersHeld() + " answers");
        if (Edges.answersWrong() != 0) {
            System.out.println(Edges.answersWrong() + " answers are not as due");
            System.exit(1);
        }
    }

    /** Each promise is to be quoted, by what it refuses if it refuses anything. */
    private static void promisesAreQuoted() throws IOException {
        String[] promises = Files.readString(Path.of("../shared/DOC.md")).split("## Promise ");
        Edges.says("## Promise 45");
        Edges.due("promises", promises.length - 1, 45);
        for (int i = 1; i < promises.length; i++) {
            Edges.says("## Promise " + i + ":");
            String body = promises[i].split("\n## ")[0];
            boolean quoted = false;
            for (String quote : Edges.QUOTES) {
                quoted |= body.contains(quote) && refuses(quote) == refuses(body);
            }
            Edges.yes("promise " + i + " is quoted", quoted);
        }
    }

    private static boolean refuses(String words) {
        return words.contains("NONE:") || words.contains("False:") || words.contains("NONE likewise") || words.contains("NoSuchElementException:");
    }

    /** What is quoted is to be the document's own words, so that no test holds to something that it does not say. */
    private static void quotesStand() throws IOException {
        String document = Files.readString(Path.of("../shared/DOC.md"));
        for (String quote : Edges.QUOTES) {
            Edges.says(quote);
            Edges.yes("the document has these words", document.contains(quote));
        }
    }
}
