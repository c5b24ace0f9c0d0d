/** What the tests share: it tells texts, compares answers with those that are due, and ends the test. */
final class Check {
    private final String name;
    private int calls = 0;
    private int wrong = 0;

    Check(String name) {
        this.name = name;
    }

    void due(String call, long got, long want) {
        calls++;
        if (got == want) return;
        wrong++;
        System.out.println(name + ": " + call + " answered " + got + ", due is " + want);
    }

    void holds(String what, boolean is) {
        due(what, is ? 1 : 0, 1);
    }

    /** Feeds a whole text, eight bytes at a time: what the last call answered (0 if there was none). */
    static int feed(WordBridges x, String text) {
        int answer = 0;
        for (int at = 0; at < text.length(); at += 8) {
            int n = Math.min(8, text.length() - at);
            long bytes = 0;
            for (int k = 0; k < n; k++) bytes = bytes << 8 | text.charAt(at + k) & 255;
            answer = x.feed(n, bytes);
        }
        return answer;
    }

    static int book(WordBridges x, int a, int b, int day, String text) {
        feed(x, text);
        return x.book(a, b, day);
    }

    /** Tells a text on a new object and looks at its first FAULT (0: none) and that one's byte. */
    void faulty(String text, int fault, int place) {
        WordBridges x = new WordBridges();
        due("book of '" + text + "'", book(x, 0, 1, 0, text), fault == 0 ? 0 : -10 - fault);
        due("fault() of '" + text + "'", x.fault(), place);
        due("count(1) behind '" + text + "'", x.count(1), 0);
        due("count(0) behind '" + text + "'", x.count(0), fault == 0 ? 1 : 0);
    }

    static long set(int... words) {
        long set = 0;
        for (int w : words) set |= 1L << w;
        return set;
    }

    void end() {
        System.out.println(name + ": " + calls + " answers, " + wrong + " wrong");
        if (wrong != 0) System.exit(1);
    }
}
