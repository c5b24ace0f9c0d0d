/** Objects in some state, made anew each time: each by fewer than 160 calls, as 512 are all that one has. */
enum State {
    EMPTY, SOME, FULL;

    private static final String[] TEXTS = {
        "0:(1)1,2*|3;1:(1)4,5;59:59;", "1:(2)0|2;4:1;59:58;", "1:(1)5;2:6|(3)7*;59:59;", "5:1,2;6:9*;7:2;",
        "0:0*;1:1;2:2,59;", "", "0:2|(4)1;5:59*;", "0:5;59:1;"};
    private static final int[][] WAYS = {{0, 1}, {1, 0}, {1, 2}, {2, 1}, {0, 3}, {3, 2}, {0, 1}, {3, 0}};

    WordBridges make() {
        WordBridges x = new WordBridges();
        if (this == EMPTY) return x;
        boolean full = this == FULL;
        for (int k = 0; k < (full ? 8 : 3); k++) Check.book(x, WAYS[k][0], WAYS[k][1], 10 * k, TEXTS[k]);
        Check.feed(x, full ? "7:8,9*;" + " ".repeat(233) : "7:8,9");
        x.now(full ? 60 : 20);
        x.taste(full);
        for (int k = 0; k < (full ? 30 : 2); k++) x.alike(0, k / 5, 1, k % 5);
        for (int k = 0; k < (full ? 40 : 2); k++) x.pair(1, 1 + k % 4, 4 + k % 3, 30 + k);
        for (int k = 0; k < (full ? 10 : 2); k++) x.say(0, k % 3);
        return x;
    }

    int books() {
        return this == EMPTY ? 0 : this == SOME ? 3 : 8;
    }

    int bytes() {
        return this == EMPTY ? 0 : this == SOME ? 5 : 240;
    }

    int looks() {
        return this == EMPTY ? 0 : this == SOME ? 2 : 30;
    }

    int pairs() {
        return this == EMPTY ? 0 : this == SOME ? 2 : 40;
    }

    int said() {
        return this == EMPTY ? 0 : this == SOME ? 2 : 10;
    }
}
