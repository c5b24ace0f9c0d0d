/** Promises 9 to 15. */
public final class EntriesTest {
    private static final Check check = new Check("EntriesTest");

    public static void main(String[] args) {
        entry();
        editions();
        gives();
        givenBy();
        returnsAndBack();
        meanings();
        meaningsByTaste();
        lopsided();
        refusals();
        check.end();
    }

    private static void entry() {
        WordBridges x = new WordBridges();
        Check.book(x, 1, 2, 3, "");
        Check.book(x, 1, 2, 3, "7:(3)1,2*,3|4*|(0)5;8:6;");
        int[] aged = {1, 3, 3, -1, 0, 3, 1, 1};
        int[] fresh = {1, 3, 3, -1, 0, 2, 0, 1};
        int[] one = {1, 1, -1, -1, -1, 1, -1, -1};
        for (int what = 0; what < 8; what++) {
            x.taste(true);
            check.due("entry of 7, " + what, x.entry(1, 7, 2, what), aged[what]);
            x.taste(false);
            check.due("entry of 7 without aged, " + what, x.entry(1, 7, 2, what), fresh[what]);
            check.due("entry of 8, " + what, x.entry(1, 8, 2, what), one[what]);
            check.due("entry of 9, " + what, x.entry(1, 9, 2, what), -1);
            check.due("entry turned, " + what, x.entry(2, 7, 1, what), -1);
            check.due("entry in one tongue, " + what, x.entry(1, 7, 1, what), -1);
        }
        x.now(2);
        check.due("entry of a later day", x.entry(1, 7, 2, 0), -1);
    }

    private static void editions() {
        WordBridges x = new WordBridges();
        Check.book(x, 0, 1, 20, "1:(1)1|2;2:2;");
        Check.book(x, 0, 1, 10, "1:3;3:3;");
        Check.book(x, 0, 1, 20, "1:4;");
        Check.book(x, 0, 1, 30, "2:5*;");
        Check.book(x, 0, 2, 40, "1:9;");
        check.due("of one day the greater number", x.entry(0, 1, 1, 0), 2);
        check.due("its senses are all of this one", x.entry(0, 1, 1, 1), 1);
        check.due("its field", x.entry(0, 1, 1, 2), -1);
        check.due("a word that only an older one has", x.entry(0, 3, 1, 0), 1);
        check.due("latest", x.gives(0, 2, 1), Check.set(5));
        x.taste(false);
        check.due("an entry of aged words alone hides the older ones", x.gives(0, 2, 1), 0);
        check.due("and is there", x.entry(0, 2, 1, 0), 3);
        x.now(29);
        check.due("the day before", x.gives(0, 2, 1), Check.set(2));
        x.now(20);
        check.due("on the day", x.entry(0, 1, 1, 0), 2);
        x.now(19);
        check.due("as of 19", x.entry(0, 1, 1, 0), 1);
        check.due("as of 19, not yet", x.entry(0, 2, 1, 0), -1);
        x.now(9);
        check.due("as of 9", x.entry(0, 1, 1, 0), -1);
        // the number of a book does not count ahead of its day
        WordBridges y = new WordBridges();
        Check.book(y, 0, 1, 20, "1:1;");
        Check.book(y, 0, 1, 10, "1:2;");
        check.due("the day counts first", y.entry(0, 1, 1, 0), 0);
    }

    private static void gives() {
        WordBridges x = new WordBridges();
        Check.book(x, 0, 1, 0, "0:0,59*|59,1*;59:2*;");
        check.due("gives", x.gives(0, 0, 1), Check.set(0, 59, 1));
        x.taste(false);
        check.due("a word aged in one sense alone", x.gives(0, 0, 1), Check.set(0, 59));
        check.due("gives none", x.gives(0, 59, 1), 0);
        check.due("no entry", x.gives(0, 1, 1), 0);
        check.due("one tongue", x.gives(0, 0, 0), 0);
    }

    private static void givenBy() {
        WordBridges x = new WordBridges();
        Check.book(x, 0, 1, 0, "0:1;1:2|1*;59:1,2;");
        check.due("givenBy", x.givenBy(0, 1, 1), Check.set(0, 1, 59));
        check.due("givenBy 2", x.givenBy(0, 1, 2), Check.set(1, 59));
        check.due("givenBy 3", x.givenBy(0, 1, 3), 0);
        x.taste(false);
        check.due("givenBy without aged", x.givenBy(0, 1, 1), Check.set(0, 59));
        check.due("givenBy turned", x.givenBy(1, 0, 1), 0);
        check.due("givenBy in one tongue", x.givenBy(0, 0, 1), 0);
        Check.book(x, 0, 1, 0, "0:5;");
        check.due("givenBy of what was", x.givenBy(0, 1, 1), Check.set(59));
    }

    private static void returnsAndBack() {
        WordBridges x = new WordBridges();
        Check.book(x, 0, 1, 0, "0:1,2;1:3;2:4;3:5;");
        Check.book(x, 1, 0, 0, "1:7;2:0*,8;3:9;5:3;");
        check.due("returns", x.returns(0, 0, 1), 1);
        check.due("back, without itself", x.back(0, 0, 1), Check.set(7, 8));
        check.due("does not return", x.returns(0, 1, 1), 0);
        check.due("back of it", x.back(0, 1, 1), Check.set(9));
        check.due("no entry there", x.returns(0, 2, 1), 0);
        check.due("nothing back", x.back(0, 2, 1), 0);
        check.due("only itself back", x.back(0, 3, 1), 0);
        check.due("itself returns", x.returns(0, 3, 1), 1);
        check.due("no entry", x.returns(0, 50, 1), 0);
        check.due("turned", x.returns(1, 2, 0), 1);
        check.due("back turned", x.back(1, 2, 0), Check.set(1));
        x.taste(false);
        check.due("returns by an aged one", x.returns(0, 0, 1), 0);
        check.due("back without aged", x.back(0, 0, 1), Check.set(7, 8));
    }

    private static void meanings() {
        WordBridges x = new WordBridges();
        Check.book(x, 0, 1, 0, "0:1|2|3,4;5:1,2|2,3|4;6:1|2|4;7:1;");
        check.due("no word comes back", x.meanings(0, 0, 1), 3);
        check.due("by a word between", x.meanings(0, 5, 1), 2);
        Check.book(x, 1, 0, 0, "1:6,10;2:6,11;4:10;");
        check.due("w itself does not join", x.meanings(0, 6, 1), 2);
        check.due("6 joins 1 and 2, 10 joins 1 and 4", x.meanings(0, 0, 1), 1);
        check.due("one", x.meanings(0, 7, 1), 1);
        check.due("none", x.meanings(0, 8, 1), 0);
        // 1 and 3 are joined by 2 alone, and 2 comes behind them both by number
        WordBridges y = new WordBridges();
        Check.book(y, 2, 3, 0, "0:1|3|9;");
        Check.book(y, 3, 2, 0, "1:20;3:21;9:20,21;");
        check.due("joined by the last", y.meanings(2, 0, 3), 1);
        Check.book(y, 3, 2, 0, "9:20,0;3:0;");
        check.due("joined no more", y.meanings(2, 0, 3), 2);
    }

    private static void meaningsByTaste() {
        WordBridges x = new WordBridges();
        Check.book(x, 0, 1, 0, "0:1*,2|1,3;1:1*|2*;");
        check.due("with aged", x.meanings(0, 0, 1), 1);
        check.due("two of aged", x.meanings(0, 1, 1), 2);
        x.taste(false);
        check.due("an aged word joins nothing", x.meanings(0, 0, 1), 2);
        check.due("none without aged", x.meanings(0, 1, 1), 0);
        Check.book(x, 1, 0, 0, "2:9*;3:9;");
        check.due("nor does an aged one that comes back", x.meanings(0, 0, 1), 2);
        Check.book(x, 1, 0, 0, "2:9;");
        check.due("a fresh one does", x.meanings(0, 0, 1), 1);
    }

    private static void lopsided() {
        WordBridges x = new WordBridges();
        check.due("no books", x.lopsided(0, 1), 0);
        Check.book(x, 0, 1, 0, "0:1,2,3*;1:1;2:4;");
        check.due("no entries back", x.lopsided(0, 1), 0);
        Check.book(x, 1, 0, 0, "1:0;2:5;3:6;");
        check.due("lopsided", x.lopsided(0, 1), 3);
        check.due("lopsided turned", x.lopsided(1, 0), 0);
        x.taste(false);
        check.due("without aged", x.lopsided(0, 1), 2);
        Check.book(x, 1, 0, 0, "2:0*;");
        check.due("an entry of aged words is one", x.lopsided(0, 1), 2);
        x.taste(true);
        check.due("aged ones count again", x.lopsided(0, 1), 2);
    }

    private static void refusals() {
        WordBridges x = new WordBridges();
        int[] bad = {-1, 60, Integer.MIN_VALUE, Integer.MAX_VALUE};
        for (int n : bad) {
            check.due("entry a", x.entry(n, 0, 1, 9), -1001);
            check.due("entry w", x.entry(0, n, 1, 9), -1001);
            check.due("entry b", x.entry(0, 0, n, 9), -1001);
            check.due("gives a", x.gives(n, 0, 1), -1001);
            check.due("gives w", x.gives(0, n, 1), -1001);
            check.due("gives b", x.gives(0, 0, n), -1001);
            check.due("givenBy a", x.givenBy(n, 0, 1), -1001);
            check.due("givenBy b", x.givenBy(0, n, 1), -1001);
            check.due("givenBy t", x.givenBy(0, 1, n), -1001);
            check.due("returns a", x.returns(n, 0, 1), -1001);
            check.due("returns w", x.returns(0, n, 0), -1001);
            check.due("returns b", x.returns(0, 0, n), -1001);
            check.due("back a", x.back(n, 0, 1), -1001);
            check.due("back w", x.back(0, n, 0), -1001);
            check.due("back b", x.back(0, 0, n), -1001);
            check.due("meanings a", x.meanings(n, 0, 1), -1001);
            check.due("meanings w", x.meanings(0, n, 0), -1001);
            check.due("meanings b", x.meanings(0, 0, n), -1001);
            check.due("lopsided a", x.lopsided(n, 0), -1001);
            check.due("lopsided b", x.lopsided(0, n), -1001);
            check.due("lopsided both", x.lopsided(n, n), -1001);
        }
        check.due("tongue 4", x.gives(4, 0, 1), -1001);
        check.due("tongue 4 to", x.gives(0, 0, 4), -1001);
        check.due("entry what", x.entry(0, 0, 1, 8), -1002);
        check.due("entry what", x.entry(0, 0, 1, -1), -1002);
        check.due("entry in one tongue, what", x.entry(2, 0, 2, 8), -1002);
        check.due("returns twice", x.returns(1, 0, 1), -1002);
        check.due("back twice", x.back(1, 0, 1), -1002);
        check.due("meanings twice", x.meanings(1, 0, 1), -1002);
        check.due("lopsided twice", x.lopsided(1, 1), -1002);
    }
}
