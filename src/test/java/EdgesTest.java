/** For each sentence of the document that names a boundary case, a test of its own. */
final class EdgesTest {
    private EdgesTest() {
    }

    public static void main(String[] args) {
        GameEdges.ask();
        CategoryEdges.ask();
        RunEdges.ask();
        RefusedCalls.ask();
        Sentence.allAreQuoted();
        Check.end();
    }
}
