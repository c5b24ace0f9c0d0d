import java.util.List;

/** What the tests of boundary cases share: each tells the promise and the sentence that it holds. */
final class Bounds {
    /** The numbers of 'What it is' and 'Terms' in of(), where promises have theirs. */
    static final int WHAT_IT_IS = -1, TERMS = 0;

    interface Call {
        long on(WordBridges x);
    }

    private final Check check;
    private String held = "";

    Bounds(String name) {
        check = new Check(name);
    }

    /** Tells the sentence that all answers are about until the next one. DocumentTest reads these lines. */
    void of(int promise, String sentence) {
        held = heading(promise) + ", \"" + sentence + "\": ";
    }

    /** How the part's heading begins in the document. */
    static String heading(int promise) {
        return promise == WHAT_IT_IS ? "What it is" : promise == TERMS ? "Terms" : "Promise " + promise + ":";
    }

    void due(String call, long got, long want) {
        check.due(held + call, got, want);
    }

    /** A call that is refused, in a state: its answer, and that all stands as on an object without that call. */
    void refused(String call, State state, Call refused, long want) {
        WordBridges x = state.make();
        due(call + " in state " + state, refused.on(x), want);
        unchanged(call + " in state " + state, x, state.make());
    }

    /** Compares two objects by all that can be seen of them. */
    void unchanged(String call, WordBridges x, WordBridges twin) {
        List<Long> got = Look.at(x);
        List<Long> want = Look.at(twin);
        due(call + " leaves " + got.size() + " answers", got.size(), want.size());
        for (int k = 0; k < got.size() && k < want.size(); k++) due(call + " leaves answer " + k, got.get(k), want.get(k));
    }

    /** A text's first FAULT (0: none) and its byte, told on a new object. */
    void faulty(String text, int fault, int place) {
        WordBridges x = new WordBridges();
        due("book of '" + text + "'", Check.book(x, 0, 1, 0, text), fault == 0 ? 0 : -10 - fault);
        due("fault() of '" + text + "'", x.fault(), place);
        due("books behind '" + text + "'", x.count(0), fault == 0 ? 1 : 0);
        due("bytes behind '" + text + "'", x.count(1), 0);
    }

    void sound(String text) {
        faulty(text, 0, -1);
    }

    void end() {
        check.end();
    }
}
