/** The boundary cases of promises 26 to 28 and of part 5 of 'Terms'. */
public final class AcrossBoundsTest {
    private static final Bounds bounds = new Bounds("AcrossBoundsTest");
    private static final int[] NO_TONGUES = {-1, 4, Integer.MIN_VALUE, Integer.MAX_VALUE};
    private static final long EVERY_WORD = (1L << 60) - 1;

    /** A call from a tongue to another one. */
    private interface TongueCall {
        long on(WordBridges x, int a, int b);
    }

    public static void main(String[] args) {
        chainsOfBooks();
        chainsByDays();
        shortest();
        firstRow();
        chainOfPlaces();
        chainThereIsNone();
        chainRefusals();
        comesAcross();
        comesAcrossByDayAndTaste();
        missing();
        acrossOfSets();
        acrossRefusals();
        fewestNoneToEight();
        fewestOfLikeOnes();
        fewestAsIfNoOthers();
        fewestThroughTongues();
        fewestByTheLongestWay();
        fewestByDayAndTaste();
        fewestOfSets();
        fewestUnknownBits();
        fewestRefusals();
        bounds.end();
    }

    /** All refusals of a call that takes (a, b). */
    private static void refusals(String name, TongueCall call) {
        for (State state : State.values()) {
            for (int n : NO_TONGUES) {
                bounds.refused(name + ", a = " + n, state, x -> call.on(x, n, 0), WordBridges.UNKNOWN);
                bounds.refused(name + ", b = " + n, state, x -> call.on(x, 0, n), WordBridges.UNKNOWN);
                bounds.refused(name + ", a = b = " + n, state, x -> call.on(x, n, n), WordBridges.UNKNOWN);
            }
            for (int a = 0; a < 4; a++) {
                int tongue = a;
                bounds.refused(name + ", a = b = " + a, state, x -> call.on(x, tongue, tongue), WordBridges.OUTSIDE);
                long answer = call.on(state.make(), a, 3 - a);
                bounds.due(name + " from " + a + " is answered", answer >= -1 ? 1 : 0, 1);
            }
        }
    }

    /** The whole chain, and the places ahead of it and behind it. */
    private static void row(String of, WordBridges x, int a, int b, int... tongues) {
        bounds.due(of + ", how many", x.chain(a, b, -1), tongues.length == 0 ? -1 : tongues.length);
        for (int i = 0; i <= 4; i++) {
            bounds.due(of + ", place " + i, x.chain(a, b, i), i < tongues.length ? tongues[i] : -1);
        }
    }

    private static void books(WordBridges x, int... tongues) {
        for (int k = 0; k + 1 < tongues.length; k += 2) Check.book(x, tongues[k], tongues[k + 1], 0, "");
    }

    // ---- promise 26

    private static void chainsOfBooks() {
        bounds.of(0, "A CHAIN of TONGUES from a to b: BOOKS lead from each to the next one (some BOOK of a DAY up to NOW).");
        WordBridges x = new WordBridges();
        row("no books", x, 0, 3);
        books(x, 0, 1);
        row("one book", x, 0, 1, 0, 1);
        row("not the other way", x, 1, 0);
        row("half a chain", x, 0, 3);
        books(x, 1, 2, 2, 3);
        row("by all tongues", x, 0, 3, 0, 1, 2, 3);
        row("there is no way back", x, 3, 0);
        books(x, 3, 0);
        row("by all tongues, from the second", x, 1, 0, 1, 2, 3, 0);
        row("by all tongues, from the last", x, 3, 2, 3, 0, 1, 2);
        // books without entries lead as well: the ones above have none
        bounds.due("no words come across", x.across(0, 3, 0), 0);
    }

    private static void chainsByDays() {
        bounds.of(0, "A CHAIN of TONGUES from a to b: BOOKS lead from each to the next one (some BOOK of a DAY up to NOW).");
        WordBridges x = new WordBridges();
        Check.book(x, 0, 1, 999, "");
        row("DAY 999 at first", x, 0, 1, 0, 1);
        x.now(998);
        row("DAY 999 as of 998", x, 0, 1);
        Check.book(x, 0, 1, 5, "");
        x.now(4);
        row("DAY 5 as of 4", x, 0, 1);
        x.now(5);
        row("DAY 5 as of 5", x, 0, 1, 0, 1);
        Check.book(x, 1, 2, 0, "");
        x.now(0);
        row("DAY 0 as of 0", x, 1, 2, 1, 2);
        row("DAYS 5 and 0 as of 0", x, 0, 2);
    }

    private static void shortest() {
        bounds.of(0, "THE SHORTEST: fewest TONGUES, of like ones the first row.");
        WordBridges x = new WordBridges();
        books(x, 0, 1, 1, 2, 2, 3);
        row("four", x, 0, 3, 0, 1, 2, 3);
        books(x, 0, 2);
        row("three", x, 0, 3, 0, 2, 3);
        books(x, 0, 3);
        row("two", x, 0, 3, 0, 3);
        row("two of two", x, 2, 3, 2, 3);
    }

    private static void firstRow() {
        bounds.of(0, "THE SHORTEST: fewest TONGUES, of like ones the first row.");
        WordBridges x = new WordBridges();
        books(x, 0, 2, 2, 3);
        row("by 2", x, 0, 3, 0, 2, 3);
        books(x, 0, 1, 1, 3);
        row("by 1, though told later", x, 0, 3, 0, 1, 3);
        WordBridges y = new WordBridges();
        books(y, 3, 2, 2, 1, 1, 0);
        row("four by 2", y, 3, 0, 3, 2, 1, 0);
        books(y, 3, 1, 1, 2, 2, 0);
        row("three by 1", y, 3, 0, 3, 1, 0);
        WordBridges z = new WordBridges();
        books(z, 0, 1, 1, 2, 2, 3, 0, 2, 2, 1);
        row("the only one of three", z, 0, 3, 0, 2, 3);
    }

    private static void chainOfPlaces() {
        bounds.of(26, "THE SHORTEST CHAIN: i = NONE how many TONGUES, else the i-th; NONE: there is none (such).");
        WordBridges x = new WordBridges();
        books(x, 3, 2, 2, 1, 1, 0);
        row("four tongues", x, 3, 0, 3, 2, 1, 0);
        row("three tongues", x, 3, 1, 3, 2, 1);
        row("two tongues", x, 3, 2, 3, 2);
        for (int i : new int[] {-2, 4, 5, Integer.MIN_VALUE, Integer.MAX_VALUE}) {
            bounds.due("none such of four, " + i, x.chain(3, 0, i), -1);
            bounds.due("none such of two, " + i, x.chain(3, 2, i), -1);
        }
        bounds.due("place 2 of two, behind a longer one", x.chain(3, 2, 2), -1);
        bounds.due("place 3 of two, behind a longer one", x.chain(3, 2, 3), -1);
    }

    private static void chainThereIsNone() {
        bounds.of(26, "THE SHORTEST CHAIN: i = NONE how many TONGUES, else the i-th; NONE: there is none (such).");
        WordBridges x = new WordBridges();
        books(x, 1, 0, 1, 3, 3, 1);
        for (int i : new int[] {-2, -1, 0, 1, 2, 3, 4, Integer.MIN_VALUE, Integer.MAX_VALUE}) {
            bounds.due("no book leads from 0, " + i, x.chain(0, 1, i), -1);
            bounds.due("no book leads to 2, " + i, x.chain(1, 2, i), -1);
        }
    }

    private static void chainRefusals() {
        bounds.of(26, "UNKNOWN, OUTSIDE.");
        for (int i : new int[] {-1, 0, 9}) refusals("chain, i = " + i, (x, a, b) -> x.chain(a, b, i));
    }

    // ---- promise 27

    private static void comesAcross() {
        bounds.of(0, "COMES ACROSS by a CHAIN: a WORD of a for which some WORD of b is come to by GIVES, step by step.");
        WordBridges x = new WordBridges();
        bounds.due("no chain", x.across(0, 3, 0), 0);
        Check.book(x, 0, 1, 0, "0:0;1:1;2:9|59;59:59;3:3;");
        Check.book(x, 1, 2, 0, "0:0;59:59;3:4;");
        bounds.due("half a chain", x.across(0, 3, 0), 0);
        Check.book(x, 2, 3, 0, "0:0;59:59;");
        bounds.due("step by step", x.across(0, 3, 0), Check.set(0, 2, 59));
        bounds.due("two steps", x.across(0, 2, 0), Check.set(0, 2, 3, 59));
        bounds.due("one step", x.across(2, 3, 0), Check.set(0, 59));
        bounds.due("the other way", x.across(3, 0, 0), 0);
        Check.book(x, 0, 3, 0, "");
        bounds.due("by the shortest alone, which has no words", x.across(0, 3, 0), 0);
        Check.book(x, 0, 3, 0, "1:0;");
        bounds.due("by the shortest alone", x.across(0, 3, 0), Check.set(1));
    }

    private static void comesAcrossByDayAndTaste() {
        bounds.of(0, "COMES ACROSS by a CHAIN: a WORD of a for which some WORD of b is come to by GIVES, step by step.");
        WordBridges x = new WordBridges();
        Check.book(x, 0, 1, 3, "0:0*;1:1,2*;");
        Check.book(x, 1, 2, 4, "0:0;1:1*;2:2;");
        bounds.due("aged ones count", x.across(0, 2, 0), Check.set(0, 1));
        x.now(3);
        bounds.due("the day before the second book", x.across(0, 2, 0), 0);
        x.now(4);
        x.taste(false);
        bounds.due("aged ones do not", x.across(0, 2, 0), 0);
        bounds.due("one step", x.across(0, 1, 0), Check.set(1));
    }

    private static void missing() {
        bounds.of(0, "MISSING from a to b: WORDS of a that have an ENTRY in some BOOK of a DAY up to NOW, but none to b.");
        WordBridges x = new WordBridges();
        bounds.due("no books", x.across(0, 1, 1), 0);
        Check.book(x, 0, 1, 5, "0:1;1:1*;");
        bounds.due("all have one to 1", x.across(0, 1, 1), 0);
        bounds.due("none has one to 2", x.across(0, 2, 1), Check.set(0, 1));
        bounds.due("words of the other tongue", x.across(1, 0, 1), 0);
        Check.book(x, 0, 3, 6, "1:1;59:1;");
        bounds.due("59 has none to 1", x.across(0, 1, 1), Check.set(59));
        bounds.due("0 has none to 3", x.across(0, 3, 1), Check.set(0));
        bounds.due("to 2, of both books", x.across(0, 2, 1), Check.set(0, 1, 59));
        x.taste(false);
        bounds.due("an ENTRY of an aged word is one", x.across(0, 1, 1), Check.set(59));
        x.now(5);
        bounds.due("59 has no ENTRY the day before", x.across(0, 1, 1), 0);
        bounds.due("nor has 1 one to 3", x.across(0, 3, 1), Check.set(0, 1));
        x.now(4);
        bounds.due("ahead of all books", x.across(0, 3, 1), 0);
    }

    private static void everyWord(WordBridges x, int a, int b) {
        StringBuilder most = new StringBuilder();
        for (int w = 0; w < 50; w++) most.append(w).append(":0;");
        Check.book(x, a, b, 0, most.toString());
        Check.book(x, a, b, 0, "50:0;51:0;52:0;53:0;54:0;55:0;56:0;57:0;58:0;59:0;");
    }

    private static void acrossOfSets() {
        bounds.of(27, "WORDS of a that COME ACROSS by THE SHORTEST CHAIN (what = 0), that are MISSING (1): the SET.");
        WordBridges x = new WordBridges();
        bounds.due("none of them", x.across(3, 0, 0), 0);
        bounds.due("none is missing", x.across(3, 0, 1), 0);
        everyWord(x, 3, 0);
        bounds.due("all of them", x.across(3, 0, 0), EVERY_WORD);
        bounds.due("none is missing to 0", x.across(3, 0, 1), 0);
        bounds.due("all are missing to 1", x.across(3, 1, 1), EVERY_WORD);
        Check.book(x, 0, 1, 0, "0:59;");
        bounds.due("all of them by two books", x.across(3, 1, 0), EVERY_WORD);
        bounds.due("missing all the same", x.across(3, 1, 1), EVERY_WORD);
    }

    private static void acrossRefusals() {
        bounds.of(27, "UNKNOWN, OUTSIDE.");
        for (int w : new int[] {0, 1}) refusals("across, what = " + w, (x, a, b) -> x.across(a, b, w));
        for (State state : State.values()) {
            for (int what : new int[] {-1, 2, Integer.MIN_VALUE, Integer.MAX_VALUE}) {
                bounds.refused("what = " + what, state, x -> x.across(0, 1, what), WordBridges.OUTSIDE);
                bounds.refused("a = b, what = " + what, state, x -> x.across(1, 1, what), WordBridges.OUTSIDE);
                bounds.refused("a = 4, what = " + what, state, x -> x.across(4, 1, what), WordBridges.UNKNOWN);
                bounds.refused("b = -1, what = " + what, state, x -> x.across(0, -1, what), WordBridges.UNKNOWN);
            }
        }
    }

    // ---- promise 28

    private static void fewestNoneToEight() {
        bounds.of(0, "FEWEST BOOKS: the least number of BOOKS of DAYS up to NOW by which alone (as if there were no others) from each WORD "
            + "of a SET of WORDS of a some WORD of b is come to by GIVES, step by step, through whatever TONGUES; of like ones the "
            + "first SET as a number; NONE.");
        WordBridges x = new WordBridges();
        bounds.due("no books for no words", x.fewest(0, 1, 0), 0);
        bounds.due("no books for a word", x.fewest(0, 1, 1), -1);
        for (int k = 0; k < 8; k++) {
            Check.book(x, 0, 1, 0, k + ":0;" + (52 + k) + ":59;");
            bounds.due("book " + k + " alone", x.fewest(0, 1, 1L << k), 1 << k);
            bounds.due("book " + k + " alone, another word", x.fewest(0, 1, 1L << 52 + k), 1 << k);
            bounds.due("all books up to " + k, x.fewest(0, 1, (2L << k) - 1), (2 << k) - 1);
            if (k < 7) bounds.due("a word of no book yet", x.fewest(0, 1, (4L << k) - 1), -1);
        }
        bounds.due("the first and the last", x.fewest(0, 1, Check.set(0, 59)), 129);
        bounds.due("no books for no words", x.fewest(0, 1, 0), 0);
        bounds.due("one word of none", x.fewest(0, 1, Check.set(0, 8)), -1);
    }

    private static void fewestOfLikeOnes() {
        bounds.of(0, "FEWEST BOOKS: the least number of BOOKS of DAYS up to NOW by which alone (as if there were no others) from each WORD "
            + "of a SET of WORDS of a some WORD of b is come to by GIVES, step by step, through whatever TONGUES; of like ones the "
            + "first SET as a number; NONE.");
        WordBridges x = new WordBridges();
        for (int k = 0; k < 6; k++) Check.book(x, 0, 1, 0, "1:" + k + ";" + (10 + k % 2) + ":0;");
        bounds.due("of six the first", x.fewest(0, 1, Check.set(1)), 1);
        bounds.due("of nine sets of two the first", x.fewest(0, 1, Check.set(10, 11)), 3);
        // books 1 and 2 make the number 6, books 0 and 3 the number 9
        WordBridges y = new WordBridges();
        Check.book(y, 0, 1, 0, "1:1;2:1;");
        Check.book(y, 0, 1, 0, "1:1;3:1;");
        Check.book(y, 0, 1, 0, "2:1;4:1;");
        Check.book(y, 0, 1, 0, "3:1;4:1;");
        bounds.due("the lesser number, without the first book", y.fewest(0, 1, Check.set(1, 2, 3, 4)), 6);
        bounds.due("with the first book", y.fewest(0, 1, Check.set(1, 2, 3)), 3);
        Check.book(y, 0, 1, 0, "1:1;2:1;3:1;4:1;");
        bounds.due("one is fewer than two", y.fewest(0, 1, Check.set(1, 2, 3, 4)), 16);
    }

    private static void fewestAsIfNoOthers() {
        bounds.of(0, "FEWEST BOOKS: the least number of BOOKS of DAYS up to NOW by which alone (as if there were no others) from each WORD "
            + "of a SET of WORDS of a some WORD of b is come to by GIVES, step by step, through whatever TONGUES; of like ones the "
            + "first SET as a number; NONE.");
        WordBridges x = new WordBridges();
        Check.book(x, 0, 2, 1, "0:0;1:0;");
        Check.book(x, 0, 2, 2, "0:9;2:0;");
        Check.book(x, 2, 1, 0, "0:0;");
        bounds.due("the later one hides it", x.across(0, 1, 0), Check.set(1, 2));
        bounds.due("as if it were not there", x.fewest(0, 1, Check.set(0)), 5);
        bounds.due("with both", x.fewest(0, 1, Check.set(1, 2)), 7);
        bounds.due("both are needed, and one hides", x.fewest(0, 1, Check.set(0, 2)), -1);
        // the same, the later one told first
        WordBridges first = new WordBridges();
        Check.book(first, 0, 2, 2, "0:9;2:0;");
        Check.book(first, 0, 2, 1, "0:0;1:0;");
        Check.book(first, 2, 1, 0, "0:0;");
        bounds.due("book 0 hides book 1", first.fewest(0, 1, Check.set(0, 2)), -1);
        bounds.due("without book 0", first.fewest(0, 1, Check.set(0, 1)), 6);
        // only books that lead the same way hide one another
        WordBridges ways = new WordBridges();
        Check.book(ways, 0, 1, 1, "0:0;");
        Check.book(ways, 0, 2, 2, "0:9;1:0;");
        Check.book(ways, 2, 1, 3, "0:0;");
        bounds.due("not one to another tongue, nor one from another", ways.fewest(0, 1, Check.set(0, 1)), 7);
        // of one DAY the greater number hides the other
        WordBridges y = new WordBridges();
        Check.book(y, 0, 1, 1, "0:0*;1:1;");
        Check.book(y, 0, 1, 1, "0:0;");
        y.taste(false);
        bounds.due("the greater number stands", y.fewest(0, 1, Check.set(0, 1)), 3);
        Check.book(y, 0, 1, 1, "0:0*;2:2;");
        bounds.due("a greater one still", y.fewest(0, 1, Check.set(0, 1, 2)), -1);
        bounds.due("it need not be taken", y.fewest(0, 1, Check.set(0, 1)), 3);
        // a later DAY goes ahead of a greater number
        WordBridges z = new WordBridges();
        Check.book(z, 0, 1, 2, "0:0;");
        Check.book(z, 0, 1, 1, "0:0*;1:1;");
        z.taste(false);
        bounds.due("the later day stands", z.fewest(0, 1, Check.set(0, 1)), 3);
    }

    private static void fewestThroughTongues() {
        bounds.of(0, "FEWEST BOOKS: the least number of BOOKS of DAYS up to NOW by which alone (as if there were no others) from each WORD "
            + "of a SET of WORDS of a some WORD of b is come to by GIVES, step by step, through whatever TONGUES; of like ones the "
            + "first SET as a number; NONE.");
        WordBridges x = new WordBridges();
        String[] steps = {"0:0;", "0:1;", "1:1;", "1:2;", "2:2;", "2:3;", "3:3;", "3:9;"};
        for (int k = 0; k < 8; k++) {
            Check.book(x, k % 2, k == 7 ? 2 : 1 - k % 2, 0, steps[k]);
            bounds.due("up to book " + k, x.fewest(0, 2, 1), k < 7 ? -1 : 255);
        }
        bounds.due("from the middle", x.fewest(0, 2, Check.set(2)), 240);
        bounds.due("both", x.fewest(0, 2, Check.set(0, 3)), 255);
        bounds.due("a ring without an end ends", x.fewest(0, 3, 1), -1);
        WordBridges y = new WordBridges();
        Check.book(y, 0, 1, 0, "0:0;");
        Check.book(y, 1, 0, 0, "0:0;");
        bounds.due("round and round", y.fewest(0, 2, 1), -1);
        bounds.due("to the next one", y.fewest(0, 1, 1), 1);
    }

    private static String steps(int from, int to, int more) {
        StringBuilder text = new StringBuilder();
        for (int w = from; w <= to; w++) text.append(w).append(':').append(w + more).append(';');
        return text.toString();
    }

    private static void fewestByTheLongestWay() {
        bounds.of(0, "FEWEST BOOKS: the least number of BOOKS of DAYS up to NOW by which alone (as if there were no others) from each WORD "
            + "of a SET of WORDS of a some WORD of b is come to by GIVES, step by step, through whatever TONGUES; of like ones the "
            + "first SET as a number; NONE.");
        // round by tongues 0, 1 and 3, sixty times, through every word of theirs: in whatever order the books were told
        int[][] orders = {{0, 1, 2, 3, 4, 5, 6}, {6, 5, 4, 3, 2, 1, 0}, {3, 0, 5, 1, 6, 4, 2}};
        int[][] ways = {{0, 1}, {0, 1}, {1, 3}, {1, 3}, {3, 0}, {3, 0}, {3, 2}};
        String[] texts = {
            steps(0, 42, 0), steps(43, 59, 0), steps(0, 42, 0), steps(43, 59, 0), steps(0, 42, 1), steps(43, 58, 1), "59:0;"};
        for (int[] order : orders) {
            WordBridges x = new WordBridges();
            for (int k : order) Check.book(x, ways[k][0], ways[k][1], 0, texts[k]);
            bounds.due("books", x.count(0), 7);
            bounds.due("by all of them", x.fewest(0, 2, 1), 127);
            bounds.due("every word", x.fewest(0, 2, EVERY_WORD), 127);
        }
    }

    private static void fewestByDayAndTaste() {
        bounds.of(0, "FEWEST BOOKS: the least number of BOOKS of DAYS up to NOW by which alone (as if there were no others) from each WORD "
            + "of a SET of WORDS of a some WORD of b is come to by GIVES, step by step, through whatever TONGUES; of like ones the "
            + "first SET as a number; NONE.");
        WordBridges x = new WordBridges();
        Check.book(x, 0, 1, 5, "0:0*;1:1;");
        Check.book(x, 0, 1, 999, "0:1;");
        x.now(4);
        bounds.due("ahead of both", x.fewest(0, 1, 1), -1);
        x.now(5);
        bounds.due("on the day of the first", x.fewest(0, 1, 1), 1);
        x.taste(false);
        bounds.due("without its aged word", x.fewest(0, 1, 1), -1);
        x.now(998);
        bounds.due("the day before the second", x.fewest(0, 1, 1), -1);
        x.now(999);
        bounds.due("on the day of the second", x.fewest(0, 1, 1), 2);
        bounds.due("by both", x.fewest(0, 1, 3), 3);
    }

    private static void fewestOfSets() {
        bounds.of(28, "FEWEST BOOKS for a SET: the SET of BOOKS; NONE.");
        WordBridges x = new WordBridges();
        bounds.due("the empty SET", x.fewest(3, 0, 0), 0);
        bounds.due("every WORD, no books", x.fewest(3, 0, EVERY_WORD), -1);
        everyWord(x, 3, 0);
        bounds.due("word 0", x.fewest(3, 0, 1), 1);
        bounds.due("word 49", x.fewest(3, 0, 1L << 49), 1);
        bounds.due("word 50", x.fewest(3, 0, 1L << 50), 2);
        bounds.due("word 59", x.fewest(3, 0, 1L << 59), 2);
        bounds.due("every WORD", x.fewest(3, 0, EVERY_WORD), 3);
        Check.book(x, 0, 1, 0, "0:59;");
        bounds.due("every WORD by three books", x.fewest(3, 1, EVERY_WORD), 7);
        bounds.due("the empty SET again", x.fewest(3, 1, 0), 0);
        bounds.due("words of the other tongue", x.fewest(0, 3, 1), -1);
    }

    private static void fewestUnknownBits() {
        bounds.of(28, "UNKNOWN (bits), OUTSIDE.");
        long[] unknown = {1L << 60, 1L << 61, 1L << 62, Long.MIN_VALUE, -1L, EVERY_WORD + 1, 1L << 60 | 1L, Long.MAX_VALUE};
        for (State state : State.values()) {
            for (long set : unknown) {
                bounds.refused("set " + set, state, x -> x.fewest(0, 1, set), WordBridges.UNKNOWN);
                bounds.refused("a = b, set " + set, state, x -> x.fewest(2, 2, set), WordBridges.UNKNOWN);
            }
            bounds.due("bit 59", state.make().fewest(0, 2, 1L << 59) >= -1 ? 1 : 0, 1);
            bounds.due("every bit to 59", state.make().fewest(0, 2, EVERY_WORD), -1);
        }
    }

    private static void fewestRefusals() {
        bounds.of(28, "UNKNOWN (bits), OUTSIDE.");
        for (long set : new long[] {0, 1, EVERY_WORD}) refusals("fewest, set " + set, (x, a, b) -> x.fewest(a, b, set));
    }
}
