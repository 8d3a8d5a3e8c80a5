/**
 * For each sentence of "Terms" and of the promises, a script or more at the edges that it names; each quotes its
 * sentence, and no word of theirs may be left that none quotes.
 */
public final class EdgesTest {
    public static void main(String[] args) {
        EdgesOfTerms.run();
        EdgesOfMessages.run();
        EdgesOfCollecting.run();
        EdgesOfPromises.run();
        EdgesOfReading.run();
        for (String piece : Document.unquoted()) {
            Script.fault("no test quotes: " + piece);
        }
        Script.finish();
    }
}
