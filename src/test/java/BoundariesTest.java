/** Boundary cases: a test of its own for each sentence of the document that names one. */
public final class BoundariesTest {
    public static void main(String[] args) {
        Checks checks = new Checks();
        Sentences sentences = new Sentences(checks);
        new EdgesOfTheTape(checks).test(sentences);
        new EdgesOfMoves(checks).test(sentences);
        new EdgesOfPieces(checks).test(sentences);
        new EdgesOfCuts(checks).test(sentences);
        new EdgesOfPlots(checks).test(sentences);
        new EdgesOfMaps(checks).test(sentences);
        new EdgesOfAnswers(checks).test(sentences);
        sentences.everyPromiseIsTested();
        checks.finish();
    }
}
