/** Promises 26 to 28. */
public final class AcrossTest {
    private static final Check check = new Check("AcrossTest");

    public static void main(String[] args) {
        chain();
        firstRow();
        acrossByTheChain();
        missing();
        fewest();
        fewestByOlderEditions();
        fewestThereAndBackAgain();
        fewestEight();
        refusals();
        check.end();
    }

    private static void row(WordBridges x, int a, int b, int... tongues) {
        check.due("length from " + a + " to " + b, x.chain(a, b, -1), tongues.length == 0 ? -1 : tongues.length);
        for (int i = 0; i < 6; i++) {
            check.due("chain(" + a + ", " + b + ", " + i + ")", x.chain(a, b, i), i < tongues.length ? tongues[i] : -1);
        }
        check.due("chain(.., -2)", x.chain(a, b, -2), -1);
        check.due("chain(.., most)", x.chain(a, b, Integer.MAX_VALUE), -1);
    }

    private static void chain() {
        WordBridges x = new WordBridges();
        row(x, 0, 3);
        Check.book(x, 0, 1, 10, "");
        Check.book(x, 1, 2, 20, "");
        Check.book(x, 2, 3, 30, "");
        row(x, 0, 3, 0, 1, 2, 3);
        row(x, 1, 3, 1, 2, 3);
        row(x, 2, 3, 2, 3);
        row(x, 3, 0);
        row(x, 1, 0);
        x.now(29);
        row(x, 0, 3);
        row(x, 0, 2, 0, 1, 2);
        x.now(30);
        row(x, 0, 3, 0, 1, 2, 3);
        Check.book(x, 0, 3, 31, "");
        row(x, 0, 3, 0, 1, 2, 3);
        x.now(31);
        row(x, 0, 3, 0, 3);
    }

    private static void firstRow() {
        WordBridges x = new WordBridges();
        Check.book(x, 3, 2, 0, "");
        Check.book(x, 2, 0, 0, "");
        row(x, 3, 0, 3, 2, 0);
        Check.book(x, 3, 1, 0, "");
        row(x, 3, 0, 3, 2, 0);
        Check.book(x, 1, 0, 0, "");
        row(x, 3, 0, 3, 1, 0);
    }

    private static void acrossByTheChain() {
        WordBridges x = new WordBridges();
        check.due("no chain", x.across(0, 2, 0), 0);
        Check.book(x, 0, 1, 0, "0:1;1:2*;2:3;59:1;4:1|2;");
        check.due("half a chain", x.across(0, 2, 0), 0);
        Check.book(x, 1, 2, 1, "1:5;2:6;");
        check.due("by two books", x.across(0, 2, 0), Check.set(0, 1, 59, 4));
        check.due("from the middle", x.across(1, 2, 0), Check.set(1, 2));
        x.taste(false);
        check.due("without aged", x.across(0, 2, 0), Check.set(0, 59, 4));
        x.now(0);
        check.due("ahead of the second", x.across(0, 2, 0), 0);
        x.now(999);
        Check.book(x, 0, 2, 0, "7:8;");
        check.due("by the shortest alone", x.across(0, 2, 0), Check.set(7));
        Check.book(x, 0, 2, 0, "7:8*;");
        check.due("an entry that gives none", x.across(0, 2, 0), 0);
    }

    private static void missing() {
        WordBridges x = new WordBridges();
        check.due("no books", x.across(0, 1, 1), 0);
        Check.book(x, 0, 1, 5, "0:1;1:2*;");
        Check.book(x, 0, 2, 6, "1:1;3:1;59:1*;");
        Check.book(x, 3, 0, 0, "7:8;");
        check.due("missing to 1", x.across(0, 1, 1), Check.set(3, 59));
        check.due("missing to 2", x.across(0, 2, 1), Check.set(0));
        check.due("missing to 3", x.across(0, 3, 1), Check.set(0, 1, 3, 59));
        check.due("missing from 1", x.across(1, 0, 1), 0);
        x.taste(false);
        check.due("an entry of aged words is one", x.across(0, 1, 1), Check.set(3, 59));
        x.now(5);
        check.due("as of 5", x.across(0, 1, 1), 0);
        check.due("as of 5, to 2", x.across(0, 2, 1), Check.set(0, 1));
    }

    private static void fewest() {
        WordBridges x = new WordBridges();
        check.due("the empty set", x.fewest(0, 3, 0), 0);
        check.due("no books", x.fewest(0, 3, 1), -1);
        Check.book(x, 0, 1, 0, "0:0;1:1;");
        Check.book(x, 1, 3, 0, "0:0;1:1;");
        check.due("two books", x.fewest(0, 3, 3), 3);
        Check.book(x, 0, 2, 0, "0:0;2:2*;");
        Check.book(x, 2, 3, 0, "0:0;2:2;");
        check.due("of like ones the first set", x.fewest(0, 3, 1), 3);
        check.due("by the other two", x.fewest(0, 3, 4), 12);
        check.due("by all four", x.fewest(0, 3, 7), 15);
        Check.book(x, 0, 3, 9, "0:0;");
        check.due("by one", x.fewest(0, 3, 1), 16);
        check.due("the older ones are fewer for both", x.fewest(0, 3, 3), 3);
        x.now(8);
        check.due("not by a book of tomorrow", x.fewest(0, 3, 1), 3);
        x.taste(false);
        check.due("not by an aged word", x.fewest(0, 3, 4), -1);
        check.due("one of them does not come", x.fewest(0, 3, 5), -1);
    }

    private static void fewestByOlderEditions() {
        WordBridges x = new WordBridges();
        Check.book(x, 0, 1, 5, "0:1;1:1;");
        Check.book(x, 0, 1, 6, "0:2;2:1;");
        Check.book(x, 1, 2, 0, "1:9;");
        check.due("the newer one hides the way", x.across(0, 2, 0), Check.set(1, 2));
        check.due("without it there is one", x.fewest(0, 2, 1), 5);
        check.due("word 2 needs the newer one", x.fewest(0, 2, 4), 6);
        check.due("1 and 2 need both", x.fewest(0, 2, 6), 7);
        check.due("0 and 2 cannot come both", x.fewest(0, 2, 5), -1);
        // of one DAY the greater number stands, within the chosen ones too
        WordBridges y = new WordBridges();
        Check.book(y, 0, 1, 5, "0:1*;1:1;");
        Check.book(y, 0, 1, 5, "0:1;");
        y.taste(false);
        check.due("the greater number", y.fewest(0, 1, 3), 3);
        Check.book(y, 0, 1, 5, "0:1*;2:2;");
        check.due("hidden again", y.fewest(0, 1, 7), -1);
    }

    private static void fewestThereAndBackAgain() {
        WordBridges x = new WordBridges();
        Check.book(x, 0, 1, 0, "0:1;5:6;");
        Check.book(x, 1, 0, 0, "1:5;");
        Check.book(x, 1, 2, 0, "6:7;");
        check.due("through its own tongue again", x.fewest(0, 2, 1), 7);
        check.due("straight", x.fewest(0, 2, 1L << 5), 5);
        check.due("by no chain of tongues", x.across(0, 2, 0), Check.set(5));
    }

    private static void fewestEight() {
        WordBridges x = new WordBridges();
        for (int k = 0; k < 8; k++) Check.book(x, 0, 1, k, k + ":0;" + (k + 50) + ":0*;");
        check.due("all eight", x.fewest(0, 1, 255), 255);
        check.due("four of them", x.fewest(0, 1, 0x55), 0x55);
        check.due("the greatest word", x.fewest(0, 1, 1L << 57), 128);
        check.due("a word of none", x.fewest(0, 1, 1L << 59), -1);
    }

    private static void refusals() {
        WordBridges x = new WordBridges();
        int[] bad = {-1, 4, Integer.MIN_VALUE, Integer.MAX_VALUE};
        for (int n : bad) {
            check.due("chain a", x.chain(n, 0, 0), -1001);
            check.due("chain b", x.chain(0, n, 0), -1001);
            check.due("chain both", x.chain(n, n, 0), -1001);
            check.due("across a", x.across(n, 0, 5), -1001);
            check.due("across b", x.across(0, n, 5), -1001);
            check.due("fewest a", x.fewest(n, 0, 1), -1001);
            check.due("fewest b", x.fewest(0, n, 1), -1001);
        }
        check.due("chain twice", x.chain(2, 2, -1), -1002);
        check.due("across twice", x.across(2, 2, 0), -1002);
        check.due("across what", x.across(0, 1, 2), -1002);
        check.due("across what", x.across(0, 1, -1), -1002);
        check.due("fewest twice", x.fewest(2, 2, 0), -1002);
        check.due("fewest bit 60", x.fewest(0, 1, 1L << 60), -1001);
        check.due("fewest bit 63", x.fewest(0, 1, Long.MIN_VALUE), -1001);
        check.due("fewest bits, twice", x.fewest(1, 1, -1L), -1001);
        check.due("fewest of every word", x.fewest(0, 1, (1L << 60) - 1), -1);
    }
}
