/** The face, the terms and promises 1 to 28: each sentence of the document that names a boundary case, by its words. */
final class EdgesTest {
    private EdgesTest() { }

    public static void main(String[] args) {
        WholeEdges.run();
        TextEdges.run();
        BoardEdges.run();
        WalkEdges.run();
        ReckonEdges.run();
        KindsEdges.run();
        Said.checkThatAllIsTested();
        Checks.end();
    }
}
