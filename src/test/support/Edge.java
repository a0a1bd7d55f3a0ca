/** What the tests of the boundary cases share: each is about one sentence of the document, named with its promise. */
final class Edge {
    static final int BAD = -1, NOT = -2, FULL = -3, NONE = -4, NULL = -11, CAST = -12, INDEX = -13, SIZE = -14;
    static final int MIN = Integer.MIN_VALUE;
    static final int MAX = Integer.MAX_VALUE;

    private final Check check = new Check();

    /** A new run of calls, to show that a sentence holds. SentencesTest looks whether the document has the sentence. */
    Run edge(int promise, String sentence) {
        check.about("promise " + promise + ", '" + sentence + "'");
        return new Run(check);
    }

    void end() {
        check.end();
    }
}
