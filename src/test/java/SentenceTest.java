import java.io.IOException;

/**
 * Each sentence of the document has a test of its own: the call at its edge, the calls just beyond it,
 * and what has changed behind them and what has not.
 */
public final class SentenceTest {
    public static void main(String[] args) throws IOException {
        EdgesOfWhole.run();
        EdgesOfTexts.run();
        EdgesOfActs.run();
        EdgesOfPatches.run();
        EdgesOfQuestions.run();
        EdgesOfCalls.run();
        Document.check();
        Probe.finish();
    }
}
