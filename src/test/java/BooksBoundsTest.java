/** The boundary cases of 'Terms' at large, of books and their days, and of promises 1 and 5 to 8. */
public final class BooksBoundsTest {
    private static final Bounds bounds = new Bounds("BooksBoundsTest");

    public static void main(String[] args) {
        calls512();
        fractions();
        numbersFromZero();
        setsOfBits();
        noneIsLessOne();
        refusedChangesNothing();
        tonguesAndWords();
        booksAndDays();
        asOfADay();
        sensesAreOfOneBook();
        tasteAtFirst();
        givesAsOfNow();
        newObject();
        aboutUnknown();
        aboutWhat();
        now();
        nowOutside();
        taste();
        countOfEmptyAndFull();
        countOutside();
        bounds.end();
    }

    // ---- terms

    private static void calls512() {
        bounds.of(-1, "An object is used for at most 512 calls after it has been made; what later calls answer is free.");
        WordBridges x = new WordBridges();
        for (int k = 1; k <= 510; k++) bounds.due("count(0), call " + k, x.count(0), 0);
        bounds.due("feed, call 511", x.feed(4, 0x313a323bL), 4);
        bounds.due("book, call 512", x.book(0, 1, 0), 0);
        WordBridges y = new WordBridges();
        for (int k = 1; k <= 511; k++) y.book(0, 1, 1000);
        bounds.due("now, call 512", y.now(0), 999);
    }

    private static void fractions() {
        bounds.of(0, "All numbers are whole; / cuts towards 0; fractions are in least terms, the lower number above 0.");
        WordBridges x = new WordBridges();
        bounds.due("upper of no words", x.sure(0, 0, 1, 2, 0, 0), 0);
        bounds.due("lower of no words", x.sure(0, 0, 1, 2, 0, 1), 1);
        Check.book(x, 0, 1, 0, "0:1,2,3,4,5,6;");
        Check.book(x, 2, 1, 0, "1:7,8;2:1,2;3:1,2,3;4:1,2,3,4,5,6;");
        int[][] due = {{0, 1}, {0, 1}, {1, 2}, {2, 3}, {1, 1}};
        for (int t = 0; t < due.length; t++) {
            bounds.due("upper of " + t, x.sure(0, 0, 1, 2, t, 0), due[t][0]);
            bounds.due("lower of " + t, x.sure(0, 0, 1, 2, t, 1), due[t][1]);
        }
    }

    private static void numbersFromZero() {
        bounds.of(0, "What has a number has it from 0 on, as it comes.");
        WordBridges x = new WordBridges();
        bounds.due("the first BOOK", Check.book(x, 0, 1, 9, "5:(3)2|(4)1;"), 0);
        bounds.due("no number for a faulty one", Check.book(x, 0, 1, 9, "x"), -11);
        bounds.due("the second BOOK, of an earlier DAY", Check.book(x, 0, 1, 8, "6:2;"), 1);
        bounds.due("BOOK 0", x.about(0, 2), 9);
        bounds.due("BOOK 1", x.about(1, 2), 8);
        bounds.due("SENSE 0, the one told first", x.entry(0, 5, 1, 2), 3);
        bounds.due("SENSE 1", x.entry(0, 5, 1, 3), 4);
        x.alike(0, 5, 1, 9);
        x.alike(0, 5, 1, 2);
        bounds.due("pair 0", x.friends(0), 2);
        bounds.due("pair 1", x.friends(1), 1);
        x.say(0, 6);
        x.say(0, 5);
        bounds.due("WORD 0 of THE SENTENCE", x.put(1, 0, 0), 2);
        bounds.due("its SENSE 0", x.put(1, 0, 1), 0);
        bounds.due("TONGUE 0 of the chain", x.chain(0, 1, 0), 0);
        bounds.due("TONGUE 1 of the chain", x.chain(0, 1, 1), 1);
    }

    private static void setsOfBits() {
        bounds.of(0, "A SET is a whole number, bit k for k (of WORDS a long).");
        WordBridges x = new WordBridges();
        for (int k = 0; k < 7; k++) Check.book(x, 2, 3, 0, "");
        Check.book(x, 0, 1, 0, "0:0,30,31,32,59;59:0;31:0;32:0;");
        bounds.due("gives, bits 0 to 59", x.gives(0, 0, 1), 1L | 1L << 30 | 1L << 31 | 1L << 32 | 1L << 59);
        bounds.due("givenBy, bits 0 to 59", x.givenBy(0, 1, 0), 1L | 1L << 31 | 1L << 32 | 1L << 59);
        bounds.due("across, bits 0 to 59", x.across(0, 1, 0), 1L | 1L << 31 | 1L << 32 | 1L << 59);
        bounds.due("missing, bits 0 to 59", x.across(0, 2, 1), 1L | 1L << 31 | 1L << 32 | 1L << 59);
        bounds.due("BOOK 7 by bit 0 of WORDS", x.fewest(0, 1, 1L), 128);
        bounds.due("BOOK 7 by bit 59 of WORDS", x.fewest(0, 1, 1L << 59), 128);
        bounds.due("bit 32 is not bit 0", x.fewest(0, 1, 1L << 33), -1);
    }

    private static void noneIsLessOne() {
        bounds.of(0, "NONE is -1.");
        WordBridges x = new WordBridges();
        bounds.due("NONE", WordBridges.NONE, -1);
        bounds.due("fault()", x.fault(), -1);
        bounds.due("entry", x.entry(0, 0, 1, 0), -1);
        bounds.due("best", x.best(0, 0, 1, 2), -1);
        bounds.due("bridge", x.bridge(0, 0, 2), -1);
        bounds.due("chain", x.chain(0, 1, -1), -1);
        bounds.due("fewest", x.fewest(0, 1, 1), -1);
        x.say(0, 0);
        bounds.due("put", x.put(1, 0, 0), -1);
        bounds.due("i = NONE: the sum", x.put(1, -1, 0), 0);
        bounds.due("i = NONE: how many are FALSE", x.friends(-1), 0);
    }

    private static void refusedChangesNothing() {
        bounds.of(0, "What is refused changes nothing.");
        for (State state : State.values()) {
            bounds.refused("now(1000)", state, x -> x.now(1000), WordBridges.OUTSIDE);
            bounds.refused("now(-1)", state, x -> x.now(-1), WordBridges.OUTSIDE);
            bounds.refused("feed(9)", state, x -> x.feed(9, -1L), WordBridges.OUTSIDE);
            bounds.refused("book(0, 0, 0)", state, x -> x.book(0, 0, 0), WordBridges.OUTSIDE);
            bounds.refused("alike(0, 0, 0, 0)", state, x -> x.alike(0, 0, 0, 0), WordBridges.OUTSIDE);
            bounds.refused("pair(0, 0, 0, 0)", state, x -> x.pair(0, 0, 0, 0), WordBridges.OUTSIDE);
            bounds.refused("say(4, 0)", state, x -> x.say(4, 0), WordBridges.UNKNOWN);
        }
    }

    private static void tonguesAndWords() {
        bounds.of(0, "TONGUES 0 to 3 have WORDS 0 to 59 each.");
        WordBridges x = new WordBridges();
        for (int a = 0; a < 4; a++) {
            int b = 3 - a;
            bounds.due("book from " + a, Check.book(x, a, b, 0, "0:59;59:0;"), a);
            bounds.due("word 0 of " + a, x.gives(a, 0, b), 1L << 59);
            bounds.due("word 59 of " + a, x.gives(a, 59, b), 1L);
            bounds.due("word -1 of " + a, x.gives(a, -1, b), WordBridges.UNKNOWN);
            bounds.due("word 60 of " + a, x.gives(a, 60, b), WordBridges.UNKNOWN);
        }
        int[] unknown = {-1, 4, Integer.MIN_VALUE, Integer.MAX_VALUE};
        for (int a : unknown) {
            bounds.due("from tongue " + a, x.gives(a, 0, 0), WordBridges.UNKNOWN);
            bounds.due("to tongue " + a, x.gives(0, 0, a), WordBridges.UNKNOWN);
        }
        bounds.due("word least", x.gives(0, Integer.MIN_VALUE, 3), WordBridges.UNKNOWN);
        bounds.due("word most", x.gives(0, Integer.MAX_VALUE, 3), WordBridges.UNKNOWN);
        // as shifts by these are by 0 or 59 again
        bounds.due("word 64", x.gives(0, 64, 3), WordBridges.UNKNOWN);
        bounds.due("word -5", x.gives(0, -5, 3), WordBridges.UNKNOWN);
    }

    private static void booksAndDays() {
        bounds.of(0, "BOOKS (8 at most) lead from a TONGUE to another one and are of a DAY (0 .. 999).");
        WordBridges x = new WordBridges();
        bounds.due("DAY 0", x.book(0, 1, 0), 0);
        bounds.due("DAY 999", x.book(1, 0, 999), 1);
        bounds.due("DAY -1", x.book(1, 0, -1), WordBridges.OUTSIDE);
        bounds.due("DAY 1000", x.book(1, 0, 1000), WordBridges.OUTSIDE);
        bounds.due("DAY least", x.book(1, 0, Integer.MIN_VALUE), WordBridges.OUTSIDE);
        bounds.due("DAY most", x.book(1, 0, Integer.MAX_VALUE), WordBridges.OUTSIDE);
        for (int a = 0; a < 4; a++) bounds.due("to itself, " + a, x.book(a, a, 0), WordBridges.OUTSIDE);
        for (int k = 2; k < 8; k++) bounds.due("book " + k, x.book(k % 4, (k + 1) % 4, k), k);
        bounds.due("a ninth", x.book(0, 1, 0), WordBridges.FULL);
        bounds.due("eight", x.count(0), 8);
        for (int k = 2; k < 8; k++) bounds.due("book " + k + " stands", x.about(k, 2), k);
        bounds.due("DAY of book 0", x.about(0, 2), 0);
        bounds.due("DAY of book 1", x.about(1, 2), 999);
    }

    private static void asOfADay() {
        bounds.of(0, "AS OF a DAY d: of BOOKS from a to b of DAYS up to d, the ENTRY of a WORD is that of the latest one "
            + "that has it (of one DAY the greater number).");
        WordBridges x = new WordBridges();
        Check.book(x, 0, 1, 999, "1:9;");
        Check.book(x, 0, 1, 0, "1:1;2:1;");
        Check.book(x, 0, 1, 500, "1:5;");
        Check.book(x, 0, 1, 500, "1:6;3:6;");
        Check.book(x, 0, 1, 500, "3:7;");
        Check.book(x, 1, 0, 600, "1:2;");
        Check.book(x, 0, 2, 600, "1:2;");
        int[] days = {0, 1, 499, 500, 501, 600, 998, 999};
        int[] books = {1, 1, 1, 3, 3, 3, 3, 0};
        for (int k = 0; k < days.length; k++) {
            x.now(days[k]);
            bounds.due("entry of 1 as of " + days[k], x.entry(0, 1, 1, 0), books[k]);
            bounds.due("entry of 2 as of " + days[k], x.entry(0, 2, 1, 0), 1);
            bounds.due("entry of 3 as of " + days[k], x.entry(0, 3, 1, 0), days[k] < 500 ? -1 : 4);
        }
        // the first and the last day
        WordBridges y = new WordBridges();
        Check.book(y, 0, 1, 0, "1:1;");
        Check.book(y, 0, 1, 999, "2:1;");
        y.now(0);
        bounds.due("DAY 0 as of 0", y.gives(0, 1, 1), 2);
        bounds.due("DAY 999 as of 0", y.gives(0, 2, 1), 0);
        y.now(998);
        bounds.due("DAY 999 as of 998", y.gives(0, 2, 1), 0);
        y.now(999);
        bounds.due("DAY 999 as of 999", y.gives(0, 2, 1), 2);
        // eight of one DAY
        WordBridges z = new WordBridges();
        for (int k = 0; k < 8; k++) Check.book(z, 0, 1, 7, "1:" + k + ";");
        bounds.due("of eight the greatest number", z.entry(0, 1, 1, 0), 7);
    }

    private static void sensesAreOfOneBook() {
        bounds.of(0, "(Its SENSES are all of this one.)");
        WordBridges x = new WordBridges();
        Check.book(x, 0, 1, 1, "1:(1)1|(2)2|(3)3;");
        Check.book(x, 0, 1, 2, "1:4;");
        bounds.due("senses", x.entry(0, 1, 1, 1), 1);
        bounds.due("field of sense 0", x.entry(0, 1, 1, 2), -1);
        bounds.due("field of sense 1", x.entry(0, 1, 1, 3), -1);
        bounds.due("words of sense 1", x.entry(0, 1, 1, 6), -1);
        bounds.due("gives", x.gives(0, 1, 1), Check.set(4));
        x.now(1);
        bounds.due("senses the day before", x.entry(0, 1, 1, 1), 3);
        bounds.due("gives the day before", x.gives(0, 1, 1), Check.set(1, 2, 3));
    }

    private static void tasteAtFirst() {
        bounds.of(0, "AGED WORDS count, or not, as is told: THE TASTE (1 at first: they count).");
        WordBridges x = new WordBridges();
        Check.book(x, 0, 1, 0, "1:2*;3:4,5*|5;");
        bounds.due("at first", x.gives(0, 1, 1), Check.set(2));
        x.taste(false);
        bounds.due("not", x.gives(0, 1, 1), 0);
        bounds.due("the ENTRY is there all the same", x.entry(0, 1, 1, 0), 0);
        bounds.due("its SENSE too", x.entry(0, 1, 1, 1), 1);
        bounds.due("its WORDS are none", x.entry(0, 1, 1, 5), 0);
        bounds.due("aged in one SENSE, not in another", x.gives(0, 3, 1), Check.set(4, 5));
        x.taste(true);
        bounds.due("again", x.gives(0, 1, 1), Check.set(2));
    }

    private static void givesAsOfNow() {
        bounds.of(0, "GIVES (a, w, b): the SET of WORDS in all SENSES of the ENTRY AS OF THE DAY that is looked at "
            + "(NOW: 999 at first).");
        WordBridges x = new WordBridges();
        Check.book(x, 0, 1, 999, "1:0,1,2,3,4,5|6,7,8,9,10,11|54,55,56,57,58,59;2:0;");
        bounds.due("three SENSES of six WORDS", Long.bitCount(x.gives(0, 1, 1)), 18);
        bounds.due("one SENSE of one WORD", x.gives(0, 2, 1), 1);
        bounds.due("no ENTRY", x.gives(0, 3, 1), 0);
        x.now(998);
        bounds.due("ahead of its DAY", x.gives(0, 1, 1), 0);
    }

    // ---- promise 1

    private static void newObject() {
        bounds.of(1, "No BOOKS; NOW 999; AGED WORDS count.");
        WordBridges x = new WordBridges();
        for (int what = 0; what <= 4; what++) bounds.due("count(" + what + ")", x.count(what), 0);
        bounds.due("about(0, 0)", x.about(0, 0), WordBridges.UNKNOWN);
        bounds.due("fault()", x.fault(), -1);
        bounds.due("now(0)", x.now(0), 999);
        bounds.due("taste(true)", x.taste(true), 1);
        bounds.due("friends(0)", x.friends(0), WordBridges.OUTSIDE);
        bounds.due("friends(NONE)", x.friends(-1), 0);
        bounds.due("put(1, NONE, 0)", x.put(1, -1, 0), WordBridges.NOT);
        bounds.due("clear()", x.clear(), 0);
        WordBridges full = State.FULL.make();
        bounds.due("another object is full", full.count(0), 8);
        bounds.due("and this one is not", x.count(0), 0);
        bounds.due("nor is a new one", new WordBridges().count(0), 0);
    }

    // ---- promise 5

    private static void aboutUnknown() {
        bounds.of(5, "Of a BOOK:");
        int[] never = {-1, 8, Integer.MIN_VALUE, Integer.MAX_VALUE};
        for (State state : State.values()) {
            for (int book : never) bounds.refused("about(" + book + ", 0)", state, x -> x.about(book, 0), WordBridges.UNKNOWN);
        }
        WordBridges x = new WordBridges();
        for (int k = 0; k < 8; k++) {
            bounds.due("about of book " + k + " ahead of it", x.about(k, 0), WordBridges.UNKNOWN);
            Check.book(x, k % 4, (k + 1) % 4, 100 + k, "");
            bounds.due("about of book " + k, x.about(k, 0), k % 4);
            bounds.due("its day", x.about(k, 2), 100 + k);
        }
        bounds.due("about of book 8", x.about(8, 0), WordBridges.UNKNOWN);
        // a BOOK of a DAY behind NOW is one all the same
        x.now(0);
        bounds.due("of a later day", x.about(7, 2), 107);
    }

    private static void aboutWhat() {
        bounds.of(5, "UNKNOWN, OUTSIDE.");
        int[] outside = {-1, 7, Integer.MIN_VALUE, Integer.MAX_VALUE};
        for (int what : outside) {
            bounds.refused("about(0, " + what + ")", State.SOME, x -> x.about(0, what), WordBridges.OUTSIDE);
            bounds.refused("about(7, " + what + ")", State.FULL, x -> x.about(7, what), WordBridges.OUTSIDE);
            bounds.refused("about(3, " + what + ")", State.SOME, x -> x.about(3, what), WordBridges.UNKNOWN);
        }
        WordBridges x = new WordBridges();
        Check.book(x, 2, 3, 999, "");
        Check.book(x, 3, 2, 0, "0:1*;59:1*,2|(5)3*|3;");
        int[] empty = {2, 3, 999, 0, 0, 0, 0};
        int[] second = {3, 2, 0, 2, 4, 5, 3};
        for (int what = 0; what <= 6; what++) {
            bounds.due("of an empty BOOK, " + what, x.about(0, what), empty[what]);
            bounds.due("of another one, " + what, x.about(1, what), second[what]);
        }
        x.taste(false);
        bounds.due("WORDS whatever THE TASTE", x.about(1, 5), 5);
        bounds.due("AGED ones whatever THE TASTE", x.about(1, 6), 3);
    }

    // ---- promises 6 and 7

    private static void now() {
        bounds.of(6, "NOW becomes a DAY: what it was.");
        WordBridges x = new WordBridges();
        bounds.due("now(0)", x.now(0), 999);
        bounds.due("now(0) again", x.now(0), 0);
        bounds.due("now(999)", x.now(999), 0);
        bounds.due("now(1)", x.now(1), 999);
        bounds.due("now(998)", x.now(998), 1);
        bounds.due("now(5)", x.now(5), 998);
    }

    private static void nowOutside() {
        bounds.of(6, "OUTSIDE.");
        int[] outside = {-1, 1000, Integer.MIN_VALUE, Integer.MAX_VALUE};
        for (State state : State.values()) {
            for (int day : outside) bounds.refused("now(" + day + ")", state, x -> x.now(day), WordBridges.OUTSIDE);
        }
        WordBridges x = new WordBridges();
        x.now(7);
        x.now(1000);
        x.now(-1);
        bounds.due("NOW stays", x.now(7), 7);
    }

    private static void taste() {
        bounds.of(7, "THE TASTE: whether AGED WORDS count: what it was (1, 0).");
        WordBridges x = new WordBridges();
        bounds.due("true on a new one", x.taste(true), 1);
        bounds.due("false", x.taste(false), 1);
        bounds.due("false again", x.taste(false), 0);
        bounds.due("true", x.taste(true), 0);
        bounds.due("true again", x.taste(true), 1);
    }

    // ---- promise 8

    private static void countOfEmptyAndFull() {
        bounds.of(8, "How many: 0 BOOKS, 1 bytes of THE TEXT, 2 pairs that LOOK ALIKE, 3 PAIRS, 4 WORDS of THE SENTENCE.");
        for (State state : State.values()) {
            WordBridges x = state.make();
            int[] due = {state.books(), state.bytes(), state.looks(), state.pairs(), state.said()};
            for (int what = 0; what <= 4; what++) bounds.due("count(" + what + ") in " + state, x.count(what), due[what]);
        }
        WordBridges x = State.FULL.make();
        x.clear();
        bounds.due("WORDS of a cleared SENTENCE", x.count(4), 0);
        bounds.due("PAIRS stand", x.count(3), 40);
        x.pair(0, 0, 0, 1);
        x.alike(2, 0, 3, 0);
        bounds.due("no PAIR more", x.count(3), 40);
        bounds.due("no pair that LOOKS ALIKE more", x.count(2), 30);
    }

    private static void countOutside() {
        bounds.of(8, "OUTSIDE.");
        int[] outside = {-1, 5, Integer.MIN_VALUE, Integer.MAX_VALUE};
        for (State state : State.values()) {
            for (int what : outside) bounds.refused("count(" + what + ")", state, x -> x.count(what), WordBridges.OUTSIDE);
        }
    }
}
