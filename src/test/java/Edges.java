import java.io.IOException;

/** Ties each boundary test to the sentence of the document that it holds the class to. */
final class Edges {
    private final Due due = new Due("EdgesTest");
    private final Doc doc;
    private String sentence = "";

    Edges() throws IOException {
        doc = new Doc();
    }

    /** All that is asked from here on belongs to this sentence; 0 is "What it is" and the Terms. */
    void sentence(int promise, String quote) {
        sentence = (promise == Doc.TERMS ? "Terms" : "Promise " + promise) + " '" + quote + "': ";
        due.is(sentence + "it stands in the document", doc.cover(promise, quote), true);
    }

    /** The document's public face, and the promises' heads, are those that the tests call. */
    void face() {
        sentence = "The public face: ";
        String all = "public final class SlotHouse { public SlotHouse(); public " + String.join("; public ", Face.METHODS) + "; }";
        is("it is " + all, doc.showsFace(all), true);
        is("promise 1 is of SlotHouse()", doc.tellsOf(1, "SlotHouse()"), true);
        for (int p = 2; p <= Doc.PROMISES; p++) {
            String method = Face.METHODS.get(p - 2);
            is("promise " + p + " is of " + method, doc.tellsOf(p, method), true);
        }
    }

    void terms(String quote) {
        sentence(Doc.TERMS, quote);
    }

    void is(String call, long got, long want) {
        due.is(sentence + call, got, want);
    }

    void is(String call, boolean got, boolean want) {
        due.is(sentence + call, got, want);
    }

    void end() {
        for (int p = 0; p <= Doc.PROMISES; p++) {
            String left = doc.left(p);
            due.is("promise " + p + ", words without a test: '" + left + "'", left.isEmpty(), true);
        }
        due.end();
    }
}
