import java.io.IOException;

/** The document, sentence by sentence: what each allows last and refuses first, empty and full, what comes first. */
public final class EdgesTest {
    private EdgesTest() {
    }

    public static void main(String[] args) throws IOException {
        EdgesOfAnswers.ask();
        EdgesOfText.ask();
        EdgesOfTitles.ask();
        EdgesOfListeners.ask();
        EdgesOfPlans.ask();
        EdgesOfErrors.ask();
        EdgesOfSheets.ask();
        Refusals.ask();
        if (!Edges.finish()) {
            System.exit(1);
        }
    }
}
