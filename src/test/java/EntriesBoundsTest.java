/** The boundary cases of promises 9 to 15 and of part 2 of 'Terms'. */
public final class EntriesBoundsTest {
    private static final Bounds bounds = new Bounds("EntriesBoundsTest");
    private static final int[] NO_TONGUES = {-1, 4, Integer.MIN_VALUE, Integer.MAX_VALUE};
    private static final int[] NO_WORDS = {-1, 60, Integer.MIN_VALUE, Integer.MAX_VALUE};

    /** A call of a word of one tongue and another tongue. */
    private interface WordCall {
        long on(WordBridges x, int a, int w, int b);
    }

    public static void main(String[] args) {
        entryOfSenses();
        entryThereIsNone();
        entryRefusals();
        gives();
        givesUnknown();
        givenByTerm();
        givenByUnknown();
        returnsTerm();
        returnsOneAndZero();
        returnsRefusals();
        backTerm();
        backRefusals();
        meaningsTerm();
        meaningsJoined();
        meaningsRefusals();
        lopsidedTerm();
        lopsidedOverAll();
        lopsidedRefusals();
        bounds.end();
    }

    /** All refusals of a call that takes (a, w, b); twice: whether one TONGUE twice is OUTSIDE. */
    private static void refusals(String name, WordCall call, boolean twice) {
        for (State state : State.values()) {
            for (int n : NO_TONGUES) {
                bounds.refused(name + ", a = " + n, state, x -> call.on(x, n, 0, 1), WordBridges.UNKNOWN);
                bounds.refused(name + ", b = " + n, state, x -> call.on(x, 0, 0, n), WordBridges.UNKNOWN);
                bounds.refused(name + ", a = b = " + n, state, x -> call.on(x, n, 0, n), WordBridges.UNKNOWN);
            }
            for (int n : NO_WORDS) {
                bounds.refused(name + ", w = " + n, state, x -> call.on(x, 0, n, 1), WordBridges.UNKNOWN);
                bounds.refused(name + ", a = b, w = " + n, state, x -> call.on(x, 2, n, 2), WordBridges.UNKNOWN);
            }
            for (int a = 0; a < 4; a++) {
                int tongue = a;
                if (twice) bounds.refused(name + ", a = b = " + a, state, x -> call.on(x, tongue, 0, tongue), WordBridges.OUTSIDE);
                else bounds.due(name + ", a = b = " + a, call.on(state.make(), a, 1, a), 0);
            }
            for (int w : new int[] {0, 59}) {
                long answer = call.on(state.make(), 0, w, 3);
                long turned = call.on(state.make(), 3, w, 0);
                bounds.due(name + " of word " + w + " is answered", answer >= 0 && turned >= 0 ? 1 : 0, 1);
            }
        }
    }

    // ---- promise 9

    private static void entryOfSenses() {
        bounds.of(9, "Of the ENTRY of w from a to b (NOW): what = 0 its BOOK, 1 SENSES, 2 and k the FIELD of SENSE k (NONE), "
            + "5 and k how many WORDS SENSE k has (by THE TASTE); NONE: there is none.");
        WordBridges x = new WordBridges();
        for (int k = 0; k < 7; k++) Check.book(x, 1, 0, 0, "");
        Check.book(x, 0, 1, 0, "0:1;1:(0)1,2|(5)3*;59:(2)1*,2*,3*,4*,5*,6*|1,2,3,4,5,6|(0)7*,8;");
        int[][] aged = {{7, 1, -1, -1, -1, 1, -1, -1}, {7, 2, 0, 5, -1, 2, 1, -1}, {7, 3, 2, -1, 0, 6, 6, 2}};
        int[][] fresh = {{7, 1, -1, -1, -1, 1, -1, -1}, {7, 2, 0, 5, -1, 2, 0, -1}, {7, 3, 2, -1, 0, 0, 6, 1}};
        int[] words = {0, 1, 59};
        for (int k = 0; k < words.length; k++) {
            for (int what = 0; what <= 7; what++) {
                x.taste(true);
                bounds.due("entry of " + words[k] + ", " + what, x.entry(0, words[k], 1, what), aged[k][what]);
                x.taste(false);
                bounds.due("without aged, " + words[k] + ", " + what, x.entry(0, words[k], 1, what), fresh[k][what]);
            }
        }
    }

    private static void entryThereIsNone() {
        bounds.of(9, "Of the ENTRY of w from a to b (NOW): what = 0 its BOOK, 1 SENSES, 2 and k the FIELD of SENSE k (NONE), "
            + "5 and k how many WORDS SENSE k has (by THE TASTE); NONE: there is none.");
        WordBridges x = new WordBridges();
        for (int what = 0; what <= 7; what++) bounds.due("without books, " + what, x.entry(0, 1, 1, what), -1);
        Check.book(x, 0, 1, 5, "1:1;");
        for (int what = 0; what <= 7; what++) {
            x.now(4);
            bounds.due("the day before, " + what, x.entry(0, 1, 1, what), -1);
            x.now(5);
            bounds.due("of another word, " + what, x.entry(0, 2, 1, what), -1);
            bounds.due("turned about, " + what, x.entry(1, 1, 0, what), -1);
            bounds.due("to a third tongue, " + what, x.entry(0, 1, 2, what), -1);
            bounds.due("in one tongue, " + what, x.entry(0, 1, 0, what), -1);
        }
        bounds.due("on the day", x.entry(0, 1, 1, 0), 0);
    }

    private static void entryRefusals() {
        bounds.of(9, "UNKNOWN, OUTSIDE.");
        for (State state : State.values()) {
            for (int n : NO_TONGUES) {
                bounds.refused("a = " + n, state, x -> x.entry(n, 0, 1, 0), WordBridges.UNKNOWN);
                bounds.refused("b = " + n, state, x -> x.entry(0, 0, n, 0), WordBridges.UNKNOWN);
                bounds.refused("a and what, " + n, state, x -> x.entry(n, 0, 1, 8), WordBridges.UNKNOWN);
            }
            for (int n : NO_WORDS) {
                bounds.refused("w = " + n, state, x -> x.entry(0, n, 1, 0), WordBridges.UNKNOWN);
                bounds.refused("w and what, " + n, state, x -> x.entry(0, n, 1, -1), WordBridges.UNKNOWN);
            }
            for (int what : new int[] {-1, 8, Integer.MIN_VALUE, Integer.MAX_VALUE}) {
                bounds.refused("what = " + what, state, x -> x.entry(0, 0, 1, what), WordBridges.OUTSIDE);
                bounds.refused("in one tongue, what = " + what, state, x -> x.entry(0, 0, 0, what), WordBridges.OUTSIDE);
            }
        }
    }

    // ---- promises 10 and 11

    private static void gives() {
        bounds.of(10, "GIVES.");
        WordBridges x = new WordBridges();
        bounds.due("without books", x.gives(0, 0, 1), 0);
        Check.book(x, 0, 1, 0, "0:0;59:59*;1:0,59|0,1*|59;");
        bounds.due("word 0 by word 0", x.gives(0, 0, 1), 1L);
        bounds.due("word 59 by word 59", x.gives(0, 59, 1), 1L << 59);
        bounds.due("one word in two senses is one", x.gives(0, 1, 1), Check.set(0, 1, 59));
        x.taste(false);
        bounds.due("nothing but aged", x.gives(0, 59, 1), 0);
        bounds.due("without the aged one", x.gives(0, 1, 1), Check.set(0, 59));
    }

    private static void givesUnknown() {
        bounds.of(10, "UNKNOWN.");
        refusals("gives", WordBridges::gives, false);
    }

    private static void givenByTerm() {
        bounds.of(0, "TURNED about: GIVEN BY (a, b, t): the SET of WORDS of a whose GIVES has t.");
        WordBridges x = new WordBridges();
        bounds.due("without books", x.givenBy(0, 1, 0), 0);
        StringBuilder most = new StringBuilder();
        for (int w = 0; w < 50; w++) most.append(w).append(":0;");
        Check.book(x, 0, 1, 1, most.toString());
        Check.book(x, 0, 1, 1, "50:0;51:0;52:0;53:0;54:0;55:0;56:0;57:0;58:0;59:0*;");
        bounds.due("by all words", x.givenBy(0, 1, 0), (1L << 60) - 1);
        bounds.due("by none", x.givenBy(0, 1, 59), 0);
        x.taste(false);
        bounds.due("by all but an aged one", x.givenBy(0, 1, 0), (1L << 59) - 1);
        Check.book(x, 0, 1, 2, "0:59;");
        bounds.due("word 0 no more", x.givenBy(0, 1, 0), (1L << 59) - 2);
        bounds.due("but to 59", x.givenBy(0, 1, 59), 1L);
        bounds.due("not the other way", x.givenBy(1, 0, 0), 0);
        x.now(0);
        bounds.due("ahead of all", x.givenBy(0, 1, 0), 0);
    }

    private static void givenByUnknown() {
        bounds.of(11, "GIVEN BY. UNKNOWN.");
        refusals("givenBy", (x, a, w, b) -> x.givenBy(a, b, w), false);
    }

    // ---- promises 12 and 13

    private static void returnsTerm() {
        bounds.of(0, "A WORD w of a RETURNS by b, if some WORD of GIVES (a, w, b) has w in its GIVES (b, .., a).");
        WordBridges x = new WordBridges();
        Check.book(x, 0, 1, 1, "0:1,2|3;1:4;2:5*;59:59;");
        bounds.due("no book leads back", x.returns(0, 0, 1), 0);
        Check.book(x, 1, 0, 2, "1:5;2:6;3:7,0*;4:2;5:2;59:59;");
        bounds.due("by the last of its words", x.returns(0, 0, 1), 1);
        bounds.due("not by another word", x.returns(0, 1, 1), 0);
        bounds.due("by an aged one", x.returns(0, 2, 1), 1);
        bounds.due("word 59", x.returns(0, 59, 1), 1);
        bounds.due("no entry", x.returns(0, 3, 1), 0);
        x.taste(false);
        bounds.due("aged on the way back", x.returns(0, 0, 1), 0);
        bounds.due("aged on the way there", x.returns(0, 2, 1), 0);
        x.now(1);
        bounds.due("the day before the book back", x.returns(0, 59, 1), 0);
        x.now(2);
        bounds.due("on its day", x.returns(0, 59, 1), 1);
    }

    private static void returnsOneAndZero() {
        bounds.of(12, "Whether w RETURNS by b: 1, 0.");
        WordBridges x = new WordBridges();
        bounds.due("without books", x.returns(0, 0, 1), 0);
        Check.book(x, 3, 0, 0, "0:0;59:59,0;");
        Check.book(x, 0, 3, 0, "0:0;59:59;");
        bounds.due("from 3 by 0", x.returns(3, 0, 0), 1);
        bounds.due("from 0 by 3", x.returns(0, 59, 3), 1);
        bounds.due("by a third", x.returns(3, 0, 1), 0);
    }

    private static void returnsRefusals() {
        bounds.of(12, "UNKNOWN, OUTSIDE (one TONGUE twice, here and below).");
        refusals("returns", WordBridges::returns, true);
    }

    private static void backTerm() {
        bounds.of(0, "BACK (a, w, b): all WORDS of a in GIVES of those of its GIVES, w left out.");
        WordBridges x = new WordBridges();
        bounds.due("without books", x.back(0, 0, 1), 0);
        Check.book(x, 0, 1, 0, "0:0,1;1:2;2:3;59:0;3:4;");
        bounds.due("no book leads back", x.back(0, 0, 1), 0);
        Check.book(x, 1, 0, 0, "0:0,59;1:1*,58;2:1;3:2,3;");
        bounds.due("0 left out", x.back(0, 0, 1), Check.set(1, 58, 59));
        bounds.due("59 left out", x.back(0, 59, 1), Check.set(0));
        bounds.due("w alone comes back", x.back(0, 1, 1), 0);
        bounds.due("w and another", x.back(0, 2, 1), Check.set(3));
        bounds.due("no entry there", x.back(0, 3, 1), 0);
        bounds.due("no entry here", x.back(0, 4, 1), 0);
        x.taste(false);
        bounds.due("without aged", x.back(0, 0, 1), Check.set(58, 59));
    }

    private static void backRefusals() {
        bounds.of(13, "BACK. UNKNOWN, OUTSIDE.");
        refusals("back", WordBridges::back, true);
    }

    // ---- promise 14

    private static void meaningsTerm() {
        bounds.of(0, "MEANINGS of w by b: WORDS of its GIVES are in one GROUP, if GIVES (b, .., a) of two of them have a WORD "
            + "other than w in common, or they stand in one SENSE of w, straight or by others between: how many GROUPS.");
        WordBridges x = new WordBridges();
        bounds.due("no entry", x.meanings(0, 0, 1), 0);
        Check.book(x, 0, 1, 0, "0:0;1:0,1,2,3,4,59;2:0|1;3:0|1|59;4:0,1|1,2|2,3;5:0*;6:0*,1|0,2;");
        int[] groups = {1, 1, 2, 3, 1, 1, 1};
        for (int w = 0; w < groups.length; w++) bounds.due("groups of " + w, x.meanings(0, w, 1), groups[w]);
        x.taste(false);
        bounds.due("nothing but an aged one", x.meanings(0, 5, 1), 0);
        bounds.due("an aged one joins nothing in its sense", x.meanings(0, 6, 1), 2);
    }

    private static void meaningsJoined() {
        bounds.of(0, "MEANINGS of w by b: WORDS of its GIVES are in one GROUP, if GIVES (b, .., a) of two of them have a WORD "
            + "other than w in common, or they stand in one SENSE of w, straight or by others between: how many GROUPS.");
        WordBridges x = new WordBridges();
        Check.book(x, 0, 1, 0, "0:1|2;3:1|2|4;59:5|6;7:1|6;8:9|10|11;");
        Check.book(x, 1, 0, 0, "1:0,3;2:0;4:3;5:59,0;6:59,0;9:1,2;10:3,4*;11:2,4;");
        bounds.due("w alone in common", x.meanings(0, 0, 1), 2);
        bounds.due("another than w in common", x.meanings(0, 3, 1), 2);
        bounds.due("word 0 in common beside w = 59", x.meanings(0, 59, 1), 1);
        bounds.due("word 0 in common", x.meanings(0, 7, 1), 1);
        bounds.due("by others between", x.meanings(0, 8, 1), 1);
        x.taste(false);
        bounds.due("not by an aged one", x.meanings(0, 8, 1), 2);
        Check.book(x, 1, 0, 0, "1:59;2:59;");
        bounds.due("word 59 in common", x.meanings(0, 0, 1), 1);
        // those between must be WORDS of its GIVES
        WordBridges y = new WordBridges();
        Check.book(y, 0, 1, 0, "9:1|2;8:0|1|2;7:1|2|59;");
        Check.book(y, 1, 0, 0, "1:20;2:21;0:20,21;59:20,21;3:20,21;");
        bounds.due("by words that it does not give", y.meanings(0, 9, 1), 2);
        bounds.due("by word 0 between", y.meanings(0, 8, 1), 1);
        bounds.due("by word 59 between", y.meanings(0, 7, 1), 1);
    }

    private static void meaningsRefusals() {
        bounds.of(14, "MEANINGS. UNKNOWN, OUTSIDE.");
        refusals("meanings", WordBridges::meanings, true);
    }

    // ---- promise 15

    private static void lopsidedTerm() {
        bounds.of(0, "LOPSIDED are pairs: t in GIVES (a, w, b), t has an ENTRY from b to a, w is not in its GIVES: how many, over all w.");
        WordBridges x = new WordBridges();
        Check.book(x, 0, 1, 1, "0:0,1*|1,2;59:59;");
        bounds.due("no entries back", x.lopsided(0, 1), 0);
        Check.book(x, 1, 0, 2, "0:0;59:0;");
        bounds.due("0 has w, 59 has not", x.lopsided(0, 1), 1);
        bounds.due("the other way: 59 gives 0, that has not 59", x.lopsided(1, 0), 1);
        Check.book(x, 1, 0, 3, "1:5;");
        bounds.due("in two senses, one pair", x.lopsided(0, 1), 2);
        Check.book(x, 1, 0, 4, "2:0*;");
        bounds.due("it has an aged w", x.lopsided(0, 1), 2);
        x.taste(false);
        bounds.due("an entry, but without w", x.lopsided(0, 1), 3);
        x.now(3);
        bounds.due("the day before", x.lopsided(0, 1), 2);
        x.now(1);
        bounds.due("on the first day", x.lopsided(0, 1), 0);
    }

    private static void lopsidedOverAll() {
        bounds.of(15, "LOPSIDED pairs from a to b.");
        WordBridges x = new WordBridges();
        bounds.due("without books", x.lopsided(3, 2), 0);
        StringBuilder most = new StringBuilder();
        for (int w = 0; w < 50; w++) most.append(w).append(":0;");
        Check.book(x, 3, 2, 0, most.toString());
        Check.book(x, 3, 2, 0, "50:0;51:0;52:0;53:0;54:0;55:0;56:0;57:0;58:0;59:0;");
        Check.book(x, 2, 3, 0, "0:0*,59;");
        bounds.due("all but the first and the last", x.lopsided(3, 2), 58);
        x.taste(false);
        bounds.due("all but the last", x.lopsided(3, 2), 59);
        Check.book(x, 2, 3, 0, "0:0*;");
        bounds.due("all of them", x.lopsided(3, 2), 60);
        Check.book(x, 3, 2, 0, "0:0,1,2,3,4,5|6,7,8,9,10,11|12,13,14,15,16,17;");
        bounds.due("one word of eighteen, one of them answered", x.lopsided(3, 2), 60);
        StringBuilder answers = new StringBuilder();
        for (int t = 1; t < 18; t++) answers.append(t).append(":1;");
        Check.book(x, 2, 3, 0, answers.toString());
        bounds.due("one word of eighteen, all of them answered", x.lopsided(3, 2), 77);
    }

    private static void lopsidedRefusals() {
        bounds.of(15, "UNKNOWN, OUTSIDE.");
        for (State state : State.values()) {
            for (int n : NO_TONGUES) {
                bounds.refused("a = " + n, state, x -> x.lopsided(n, 0), WordBridges.UNKNOWN);
                bounds.refused("b = " + n, state, x -> x.lopsided(0, n), WordBridges.UNKNOWN);
                bounds.refused("a = b = " + n, state, x -> x.lopsided(n, n), WordBridges.UNKNOWN);
            }
            for (int a = 0; a < 4; a++) {
                int tongue = a;
                bounds.refused("a = b = " + a, state, x -> x.lopsided(tongue, tongue), WordBridges.OUTSIDE);
            }
        }
    }
}
