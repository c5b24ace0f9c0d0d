/** The boundary cases of promises 16 to 21 and of part 3 of 'Terms'. */
public final class ThroughBoundsTest {
    private static final Bounds bounds = new Bounds("ThroughBoundsTest");
    private static final int[] NO_TONGUES = {-1, 4, Integer.MIN_VALUE, Integer.MAX_VALUE};
    private static final int[] NO_WORDS = {-1, 60, Integer.MIN_VALUE, Integer.MAX_VALUE};
    private static final int[][] ALIKE = {{0, 0, 1}, {0, 1, 0}, {1, 0, 0}, {3, 3, 3}};
    private static final String EIGHTEEN = "1,2,3,4,5,6|7,8,9,10,11,12|13,14,15,16,17,18";

    /** A call of a word of a, through m, to c and maybe a word of it. */
    private interface WayCall {
        long on(WordBridges x, int a, int w, int m, int c, int t);
    }

    public static void main(String[] args) {
        waysThatFit();
        weightByDayAndTaste();
        weightZeroToMost();
        weightThroughM();
        weightRefusals();
        surenessTerm();
        sureUpperAndLower();
        sureRefusals();
        bestTerm();
        bestNone();
        bestRefusals();
        bridgeTerm();
        bridgeNone();
        bridgeRefusals();
        looksTerm();
        alikeTold();
        alikeRefusals();
        alikeNot();
        alikeFull();
        falseTrueOpen();
        friendsOfPairs();
        friendsOutside();
        bounds.end();
    }

    /** All refusals of a call that takes (a, w, m, c) and maybe t. */
    private static void refusals(String name, WayCall call, boolean takesT) {
        for (State state : State.values()) {
            for (int n : NO_TONGUES) {
                bounds.refused(name + ", a = " + n, state, x -> call.on(x, n, 0, 1, 2, 0), WordBridges.UNKNOWN);
                bounds.refused(name + ", m = " + n, state, x -> call.on(x, 0, 0, n, 2, 0), WordBridges.UNKNOWN);
                bounds.refused(name + ", c = " + n, state, x -> call.on(x, 0, 0, 1, n, 0), WordBridges.UNKNOWN);
                bounds.refused(name + ", a = m, c = " + n, state, x -> call.on(x, 0, 0, 0, n, 0), WordBridges.UNKNOWN);
                bounds.refused(name + ", a = m = c = " + n, state, x -> call.on(x, n, 0, n, n, 0), WordBridges.UNKNOWN);
            }
            for (int n : NO_WORDS) {
                bounds.refused(name + ", w = " + n, state, x -> call.on(x, 0, n, 1, 2, 0), WordBridges.UNKNOWN);
                bounds.refused(name + ", a = m, w = " + n, state, x -> call.on(x, 0, n, 0, 2, 0), WordBridges.UNKNOWN);
                if (!takesT) continue;
                bounds.refused(name + ", t = " + n, state, x -> call.on(x, 0, 0, 1, 2, n), WordBridges.UNKNOWN);
                bounds.refused(name + ", m = c, t = " + n, state, x -> call.on(x, 0, 0, 1, 1, n), WordBridges.UNKNOWN);
            }
            for (int[] k : ALIKE) {
                String of = ", " + k[0] + " " + k[1] + " " + k[2];
                bounds.refused(name + of, state, x -> call.on(x, k[0], 0, k[1], k[2], 0), WordBridges.OUTSIDE);
            }
            long first = call.on(state.make(), 0, 0, 1, 3, 59);
            long last = call.on(state.make(), 3, 59, 2, 0, 0);
            bounds.due(name + " at the bounds is answered", first >= -1 && last >= -1 ? 1 : 0, 1);
        }
    }

    // ---- promise 16

    private static void waysThatFit() {
        bounds.of(0, "THROUGH a tongue m from w of a to c: a WAY is a SENSE of w with a WORD x of m, a SENSE of x with a WORD t of c, "
            + "FIELDS that FIT (alike, or one of them NONE).");
        String[] fields = {"", "(0)", "(5)"};
        int[][] fits = {{1, 1, 1}, {1, 1, 0}, {1, 0, 1}};
        for (int i = 0; i < 3; i++) {
            for (int j = 0; j < 3; j++) {
                WordBridges x = new WordBridges();
                Check.book(x, 0, 1, 0, "0:" + fields[i] + "59;");
                Check.book(x, 1, 2, 0, "59:" + fields[j] + "0;");
                bounds.due("field '" + fields[i] + "' and '" + fields[j] + "'", x.weight(0, 0, 1, 2, 0), fits[i][j]);
                bounds.due("best by them", x.best(0, 0, 1, 2), fits[i][j] == 1 ? 0 : -1);
            }
        }
    }

    private static void weightByDayAndTaste() {
        bounds.of(0, "THROUGH a tongue m from w of a to c: a WAY is a SENSE of w with a WORD x of m, a SENSE of x with a WORD t of c, "
            + "FIELDS that FIT (alike, or one of them NONE).");
        WordBridges x = new WordBridges();
        Check.book(x, 0, 1, 5, "0:1*,2;");
        Check.book(x, 1, 2, 6, "1:3;2:3|3*;");
        bounds.due("all", x.weight(0, 0, 1, 2, 3), 3);
        x.taste(false);
        bounds.due("neither by an aged x nor to an aged t", x.weight(0, 0, 1, 2, 3), 1);
        x.now(5);
        bounds.due("the day before the second book", x.weight(0, 0, 1, 2, 3), 0);
        x.now(6);
        bounds.due("on its day", x.weight(0, 0, 1, 2, 3), 1);
    }

    private static void weightZeroToMost() {
        bounds.of(0, "WEIGHT of t: how many WAYS there are.");
        WordBridges x = new WordBridges();
        bounds.due("without books", x.weight(0, 0, 1, 2, 7), 0);
        Check.book(x, 0, 1, 0, "0:1,2,3,4,5,6|1,2,3,4,5,6|1,2,3,4,5,6;1:1;2:9;");
        bounds.due("by half a way", x.weight(0, 0, 1, 2, 7), 0);
        Check.book(x, 1, 2, 0, "1:7|7|7;2:7|7|7;3:7|7|7;4:7|7|7;5:7|7|7;6:7|7|7,8;");
        bounds.due("three senses, six words, three senses", x.weight(0, 0, 1, 2, 7), 54);
        bounds.due("three senses, one word, one sense", x.weight(0, 0, 1, 2, 8), 3);
        bounds.due("one word", x.weight(0, 1, 1, 2, 7), 3);
        bounds.due("a word that leads no further", x.weight(0, 2, 1, 2, 7), 0);
        bounds.due("no entry", x.weight(0, 3, 1, 2, 7), 0);
        bounds.due("another t", x.weight(0, 0, 1, 2, 9), 0);
    }

    private static void weightThroughM() {
        bounds.of(16, "WEIGHT of t THROUGH m.");
        WordBridges x = new WordBridges();
        Check.book(x, 3, 0, 0, "59:0;");
        Check.book(x, 0, 1, 0, "0:59;");
        bounds.due("through 0", x.weight(3, 59, 0, 1, 59), 1);
        bounds.due("through 2", x.weight(3, 59, 2, 1, 59), 0);
        bounds.due("turned", x.weight(1, 59, 0, 3, 59), 0);
        bounds.due("the first word", x.weight(3, 0, 0, 1, 0), 0);
    }

    private static void weightRefusals() {
        bounds.of(16, "UNKNOWN, OUTSIDE (two of a, m, c alike).");
        refusals("weight", WordBridges::weight, true);
    }

    // ---- promise 17

    private static void fraction(WordBridges x, int t, int upper, int lower) {
        bounds.due("upper of " + t, x.sure(0, 0, 1, 2, t, 0), upper);
        bounds.due("lower of " + t, x.sure(0, 0, 1, 2, t, 1), lower);
    }

    private static void surenessTerm() {
        bounds.of(0, "SURENESS of t: with A the SET GIVES (a, w, m), B the SET GIVES (c, t, m): twice A and B's common WORDS by all of A "
            + "and all of B (0 by 1, if there are none).");
        WordBridges x = new WordBridges();
        fraction(x, 0, 0, 1);
        Check.book(x, 2, 1, 0, "0:" + EIGHTEEN + ";1:1,2,3,4,5,6|7,8,9,10,11,12|13,14,15,16,17;2:18;3:19;4:1,2|2,1|1*;5:1*,2;");
        fraction(x, 0, 0, 1);
        Check.book(x, 0, 1, 0, "0:" + EIGHTEEN + ";");
        fraction(x, 0, 1, 1);
        fraction(x, 1, 34, 35);
        fraction(x, 2, 2, 19);
        fraction(x, 3, 0, 1);
        fraction(x, 4, 1, 5);
        fraction(x, 5, 1, 5);
        fraction(x, 6, 0, 1);
        x.taste(false);
        fraction(x, 4, 1, 5);
        fraction(x, 5, 2, 19);
        Check.book(x, 2, 1, 0, "0:1,2,3,4,5,6|7,8,9,10,11,12|13,14,15,16,17,59;59:1;");
        fraction(x, 0, 17, 18);
        fraction(x, 59, 2, 19);
    }

    private static void sureUpperAndLower() {
        bounds.of(17, "SURENESS of t: what = 0 the upper, 1 the lower number.");
        WordBridges x = new WordBridges();
        Check.book(x, 3, 0, 5, "59:0,59;");
        Check.book(x, 1, 0, 6, "0:59;");
        bounds.due("upper", x.sure(3, 59, 0, 1, 0, 0), 2);
        bounds.due("lower", x.sure(3, 59, 0, 1, 0, 1), 3);
        bounds.due("no WAY needs to lead there", x.weight(3, 59, 0, 1, 0), 0);
        x.now(5);
        bounds.due("upper, the day before", x.sure(3, 59, 0, 1, 0, 0), 0);
        bounds.due("lower, the day before", x.sure(3, 59, 0, 1, 0, 1), 1);
        bounds.due("upper, through another", x.sure(3, 59, 2, 1, 0, 0), 0);
        bounds.due("lower, through another", x.sure(3, 59, 2, 1, 0, 1), 1);
    }

    private static void sureRefusals() {
        bounds.of(17, "UNKNOWN, OUTSIDE.");
        refusals("sure 0", (x, a, w, m, c, t) -> x.sure(a, w, m, c, t, 0), true);
        refusals("sure 1", (x, a, w, m, c, t) -> x.sure(a, w, m, c, t, 1), true);
        for (State state : State.values()) {
            for (int what : new int[] {-1, 2, Integer.MIN_VALUE, Integer.MAX_VALUE}) {
                bounds.refused("what = " + what, state, x -> x.sure(0, 0, 1, 2, 0, what), WordBridges.OUTSIDE);
                bounds.refused("a and what = " + what, state, x -> x.sure(4, 0, 1, 2, 0, what), WordBridges.UNKNOWN);
                bounds.refused("t and what = " + what, state, x -> x.sure(0, 0, 1, 2, 60, what), WordBridges.UNKNOWN);
            }
        }
    }

    // ---- promise 18

    private static void bestTerm() {
        bounds.of(0, "THE BEST of m: the t with the greatest SURENESS, of like ones the greatest WEIGHT, then the least; only such t "
            + "to which a WAY leads.");
        WordBridges x = new WordBridges();
        Check.book(x, 0, 1, 0, "0:1,2;");
        Check.book(x, 1, 2, 0, "1:59,0;2:3,58;");
        bounds.due("of four like ones the least", x.best(0, 0, 1, 2), 0);
        Check.book(x, 1, 2, 0, "1:59,0;2:59,58;");
        bounds.due("the greatest weight, the greatest word", x.best(0, 0, 1, 2), 59);
        Check.book(x, 2, 1, 0, "58:9,1;0:7;5:1,2;");
        bounds.due("the surest of the least weight; no way leads to 5", x.best(0, 0, 1, 2), 58);
        Check.book(x, 2, 1, 0, "0:1,8;");
        bounds.due("of like ones of one weight the least", x.best(0, 0, 1, 2), 0);
        Check.book(x, 2, 1, 0, "59:2,7;");
        bounds.due("of like ones the greatest weight", x.best(0, 0, 1, 2), 59);
        Check.book(x, 2, 1, 0, "58:1,2;");
        bounds.due("the surest of all", x.best(0, 0, 1, 2), 58);
    }

    private static void bestNone() {
        bounds.of(18, "THE BEST of m; NONE: no WAY leads.");
        WordBridges x = new WordBridges();
        bounds.due("without books", x.best(0, 0, 1, 2), -1);
        Check.book(x, 0, 1, 3, "0:(1)1;1:2*;");
        bounds.due("by half a way", x.best(0, 0, 1, 2), -1);
        Check.book(x, 1, 2, 4, "1:(2)5;2:0;");
        Check.book(x, 2, 1, 4, "5:1;");
        bounds.due("fields that do not fit", x.best(0, 0, 1, 2), -1);
        bounds.due("word 0, of no sureness", x.best(0, 1, 1, 2), 0);
        x.taste(false);
        bounds.due("not by an aged one", x.best(0, 1, 1, 2), -1);
        x.taste(true);
        x.now(3);
        bounds.due("the day before", x.best(0, 1, 1, 2), -1);
        x.now(4);
        bounds.due("on the day", x.best(0, 1, 1, 2), 0);
    }

    private static void bestRefusals() {
        bounds.of(18, "UNKNOWN, OUTSIDE.");
        refusals("best", (x, a, w, m, c, t) -> x.best(a, w, m, c), false);
    }

    // ---- promise 19

    private static void bridgeTerm() {
        bounds.of(0, "THE BRIDGE: the m for which THE BEST is surest (WEIGHT, then the least m).");
        WordBridges x = new WordBridges();
        Check.book(x, 0, 3, 0, "0:1;");
        Check.book(x, 3, 1, 0, "1:9;");
        bounds.due("3 alone", x.bridge(0, 0, 1), 3);
        Check.book(x, 0, 2, 0, "0:1;");
        Check.book(x, 2, 1, 0, "1:10;");
        bounds.due("of like ones the least m, not the least t", x.bridge(0, 0, 1), 2);
        Check.book(x, 3, 1, 0, "1:9|9;");
        bounds.due("the greater weight", x.bridge(0, 0, 1), 3);
        Check.book(x, 1, 2, 0, "10:1,2,3;");
        bounds.due("the surer, of less weight", x.bridge(0, 0, 1), 2);
        Check.book(x, 1, 3, 0, "9:1,2,3;");
        bounds.due("as sure, of more weight", x.bridge(0, 0, 1), 3);
        // the first tongue as the bridge, and the last one
        WordBridges z = new WordBridges();
        Check.book(z, 1, 0, 0, "0:1;");
        Check.book(z, 0, 2, 0, "1:9;");
        bounds.due("0 alone", z.bridge(1, 0, 2), 0);
        Check.book(z, 1, 3, 0, "0:1;");
        Check.book(z, 3, 2, 0, "1:9;");
        bounds.due("0 and 3 alike", z.bridge(1, 0, 2), 0);
        Check.book(z, 2, 3, 0, "9:1;");
        bounds.due("3 is surer", z.bridge(1, 0, 2), 3);
        // the weight that counts is that of the best, not of another word
        WordBridges y = new WordBridges();
        Check.book(y, 0, 2, 0, "0:1;");
        Check.book(y, 2, 1, 0, "1:5|6|6;");
        Check.book(y, 1, 2, 0, "5:1;");
        Check.book(y, 0, 3, 0, "0:1;");
        Check.book(y, 3, 1, 0, "1:5|5;");
        Check.book(y, 1, 3, 0, "5:1;");
        bounds.due("the best's weight", y.bridge(0, 0, 1), 3);
    }

    private static void bridgeNone() {
        bounds.of(19, "THE BRIDGE; NONE. UNKNOWN, OUTSIDE.");
        WordBridges x = new WordBridges();
        bounds.due("without books", x.bridge(3, 59, 0), -1);
        Check.book(x, 3, 0, 0, "59:0;");
        bounds.due("straight, through none", x.bridge(3, 59, 0), -1);
        Check.book(x, 3, 1, 0, "59:59;");
        bounds.due("by half a way", x.bridge(3, 59, 0), -1);
        Check.book(x, 1, 0, 7, "59:59;");
        bounds.due("by a way", x.bridge(3, 59, 0), 1);
        x.now(6);
        bounds.due("the day before", x.bridge(3, 59, 0), -1);
    }

    private static void bridgeRefusals() {
        bounds.of(19, "THE BRIDGE; NONE. UNKNOWN, OUTSIDE.");
        for (State state : State.values()) {
            for (int n : NO_TONGUES) {
                bounds.refused("a = " + n, state, x -> x.bridge(n, 0, 1), WordBridges.UNKNOWN);
                bounds.refused("c = " + n, state, x -> x.bridge(0, 0, n), WordBridges.UNKNOWN);
                bounds.refused("a = c = " + n, state, x -> x.bridge(n, 0, n), WordBridges.UNKNOWN);
            }
            for (int n : NO_WORDS) {
                bounds.refused("w = " + n, state, x -> x.bridge(0, n, 1), WordBridges.UNKNOWN);
                bounds.refused("a = c, w = " + n, state, x -> x.bridge(0, n, 0), WordBridges.UNKNOWN);
            }
            bounds.refused("a = c = 0", state, x -> x.bridge(0, 0, 0), WordBridges.OUTSIDE);
            bounds.refused("a = c = 3", state, x -> x.bridge(3, 0, 3), WordBridges.OUTSIDE);
        }
    }

    // ---- promise 20

    private static void looksTerm() {
        bounds.of(0, "LOOK ALIKE are pairs of WORDS of two TONGUES told so (30 at most).");
        WordBridges x = new WordBridges();
        bounds.due("none", x.count(2), 0);
        for (int k = 1; k <= 30; k++) bounds.due("pair " + k, x.alike(0, 2 * k - 1, 3, 59), k);
        bounds.due("pair 31", x.alike(0, 0, 3, 59), WordBridges.FULL);
        bounds.due("thirty", x.count(2), 30);
        bounds.due("the thirtieth", x.friends(29), 0);
    }

    private static void alikeTold() {
        bounds.of(20, "Two WORDS LOOK ALIKE: how many pairs there are.");
        WordBridges x = new WordBridges();
        bounds.due("of the first words", x.alike(0, 0, 3, 0), 1);
        bounds.due("of the last words", x.alike(3, 59, 0, 59), 2);
        bounds.due("one of them again", x.alike(0, 0, 3, 59), 3);
        bounds.due("crossed", x.alike(0, 59, 3, 0), 4);
        bounds.due("tongues changed, words not", x.alike(3, 0, 1, 0), 5);
        bounds.due("of one tongue twice each", x.alike(1, 0, 2, 0), 6);
    }

    private static void alikeRefusals() {
        bounds.of(20, "UNKNOWN, OUTSIDE (one TONGUE twice), NOT: they do already (either way); FULL.");
        for (State state : State.values()) {
            for (int n : NO_TONGUES) {
                bounds.refused("a = " + n, state, x -> x.alike(n, 0, 1, 0), WordBridges.UNKNOWN);
                bounds.refused("b = " + n, state, x -> x.alike(0, 0, n, 0), WordBridges.UNKNOWN);
                bounds.refused("a = b = " + n, state, x -> x.alike(n, 0, n, 0), WordBridges.UNKNOWN);
            }
            for (int n : NO_WORDS) {
                bounds.refused("w = " + n, state, x -> x.alike(0, n, 1, 0), WordBridges.UNKNOWN);
                bounds.refused("v = " + n, state, x -> x.alike(0, 0, 1, n), WordBridges.UNKNOWN);
                bounds.refused("a = b, v = " + n, state, x -> x.alike(0, 0, 0, n), WordBridges.UNKNOWN);
            }
            bounds.refused("a = b = 0", state, x -> x.alike(0, 0, 0, 1), WordBridges.OUTSIDE);
            bounds.refused("a = b = 3", state, x -> x.alike(3, 0, 3, 0), WordBridges.OUTSIDE);
        }
    }

    private static void alikeNot() {
        bounds.of(20, "UNKNOWN, OUTSIDE (one TONGUE twice), NOT: they do already (either way); FULL.");
        bounds.refused("the first again", State.SOME, x -> x.alike(0, 0, 1, 0), WordBridges.NOT);
        bounds.refused("the first turned", State.SOME, x -> x.alike(1, 0, 0, 0), WordBridges.NOT);
        bounds.refused("the last again", State.SOME, x -> x.alike(0, 0, 1, 1), WordBridges.NOT);
        bounds.refused("the last turned", State.SOME, x -> x.alike(1, 1, 0, 0), WordBridges.NOT);
        WordBridges x = State.SOME.make();
        bounds.due("the last crossed", x.alike(0, 1, 1, 0), 3);
        bounds.due("the last crossed, turned", x.alike(1, 0, 0, 1), WordBridges.NOT);
        bounds.due("of other tongues", x.alike(0, 0, 2, 0), 4);
        bounds.due("of others still", x.alike(2, 0, 1, 0), 5);
    }

    private static void alikeFull() {
        bounds.of(20, "UNKNOWN, OUTSIDE (one TONGUE twice), NOT: they do already (either way); FULL.");
        bounds.refused("the thirty-first", State.FULL, x -> x.alike(2, 0, 3, 0), WordBridges.FULL);
        bounds.refused("NOT ahead of FULL", State.FULL, x -> x.alike(0, 5, 1, 4), WordBridges.NOT);
        bounds.refused("NOT ahead of FULL, turned", State.FULL, x -> x.alike(1, 4, 0, 5), WordBridges.NOT);
        bounds.refused("OUTSIDE ahead of FULL", State.FULL, x -> x.alike(2, 0, 2, 0), WordBridges.OUTSIDE);
        bounds.refused("UNKNOWN ahead of FULL", State.FULL, x -> x.alike(2, 60, 3, 0), WordBridges.UNKNOWN);
    }

    // ---- promise 21

    private static void falseTrueOpen() {
        bounds.of(0, "A pair w of a, v of b is FALSE, if w has an ENTRY from a to b that has not v, or v one from b to a that has not w; "
            + "TRUE, if one of them has it and none has not; else OPEN.");
        String[] there = {"", "1:2;", "1:3;"};
        String[] back = {"", "2:1;", "2:3;"};
        int[][] due = {{0, 1, 2}, {1, 1, 2}, {2, 2, 2}};
        for (int i = 0; i < 3; i++) {
            for (int j = 0; j < 3; j++) {
                WordBridges x = new WordBridges();
                x.alike(0, 1, 1, 2);
                Check.book(x, 0, 1, 5, there[i]);
                Check.book(x, 1, 0, 5, back[j]);
                bounds.due("'" + there[i] + "' and '" + back[j] + "'", x.friends(0), due[i][j]);
                bounds.due("how many are FALSE", x.friends(-1), due[i][j] == 2 ? 1 : 0);
                x.now(4);
                bounds.due("the day before", x.friends(0), 0);
            }
        }
        WordBridges y = new WordBridges();
        y.alike(1, 2, 0, 1);
        Check.book(y, 0, 1, 0, "1:2*,3;");
        bounds.due("it has it aged", y.friends(0), 1);
        y.taste(false);
        bounds.due("that does not count", y.friends(0), 2);
        Check.book(y, 0, 1, 0, "1:2*;");
        bounds.due("an ENTRY of aged ones alone has it not", y.friends(0), 2);
    }

    private static void friendsOfPairs() {
        bounds.of(21, "A pair (i): 0 OPEN, 1 TRUE, 2 FALSE; i = NONE: how many are FALSE.");
        WordBridges x = new WordBridges();
        bounds.due("NONE of no pairs", x.friends(-1), 0);
        for (int k = 0; k < 30; k++) x.alike(0, 0, 1, k);
        bounds.due("NONE of open ones", x.friends(-1), 0);
        Check.book(x, 0, 1, 0, "0:0,29;");
        bounds.due("pair 0", x.friends(0), 1);
        bounds.due("pair 1", x.friends(1), 2);
        bounds.due("pair 28", x.friends(28), 2);
        bounds.due("pair 29", x.friends(29), 1);
        bounds.due("all but two", x.friends(-1), 28);
        Check.book(x, 0, 1, 0, "0:59;");
        bounds.due("all of them", x.friends(-1), 30);
    }

    private static void friendsOutside() {
        bounds.of(21, "OUTSIDE (i).");
        for (State state : State.values()) {
            for (int i : new int[] {-2, state.looks(), 30, Integer.MIN_VALUE, Integer.MAX_VALUE}) {
                bounds.refused("friends(" + i + ")", state, x -> x.friends(i), WordBridges.OUTSIDE);
            }
        }
        bounds.due("the last of two is one", State.SOME.make().friends(1) >= 0 ? 1 : 0, 1);
        bounds.due("the last of thirty is one", State.FULL.make().friends(29) >= 0 ? 1 : 0, 1);
    }
}
