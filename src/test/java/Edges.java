/** Runs the edges that the document names, each a test of its own, told by its promise and the document's words. */
final class Edges {
    interface Test {
        void run(Due due);
    }

    private final Due due;
    private final Document document;

    Edges(Due due, Document document) {
        this.due = due;
        this.document = document;
    }

    void edge(int promise, String words, Test test) {
        due.about("promise " + promise + ", '" + words + "': ");
        due.holds("that it stands in the document, once,", document.quote(promise, words));
        int before = due.asked();
        try {
            test.run(due);
        } catch (RuntimeException e) {
            due.holds("that all it calls on the way answer (" + e + ")", false);
        }
        due.holds("that it asks something", due.asked() > before);
    }

    /** No clause of the document is left without an edge. */
    void end() {
        due.about("");
        for (String clause : document.unquoted()) {
            due.holds("that there is an edge for " + clause, false);
        }
    }
}
