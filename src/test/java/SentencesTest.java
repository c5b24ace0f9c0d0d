/** Promises 22 to 25. */
public final class SentencesTest {
    private static final Check check = new Check("SentencesTest");

    public static void main(String[] args) {
        pair();
        sayAndClear();
        putRefusals();
        staysAsItIs();
        firstOfLikeOnes();
        strengths();
        fields();
        laterWordsDecide();
        byTasteAndDay();
        longest();
        check.end();
    }

    private static void pair() {
        WordBridges x = new WordBridges();
        check.due("pair a", x.pair(4, 0, 0, 0), -1001);
        check.due("pair a", x.pair(-1, 0, 0, 1), -1001);
        check.due("pair x", x.pair(0, 60, 0, 0), -1001);
        check.due("pair y", x.pair(0, 0, -1, 100), -1001);
        check.due("pair strength 0", x.pair(0, 0, 0, 0), -1002);
        check.due("pair strength 100", x.pair(0, 0, 0, 100), -1002);
        check.due("pair strength -1", x.pair(0, 0, 0, -1), -1002);
        for (int k = 1; k <= 40; k++) check.due("pair " + k, x.pair(k % 4, 5, 5, k % 2 == 0 ? 1 : 99), k);
        check.due("pair full", x.pair(0, 5, 5, 9), -1004);
        check.due("pair full, OUTSIDE", x.pair(0, 5, 5, 0), -1002);
        check.due("pair count", x.count(3), 40);
    }

    private static void sayAndClear() {
        WordBridges x = new WordBridges();
        check.due("say a", x.say(4, 0), -1001);
        check.due("say w", x.say(0, 60), -1001);
        check.due("say w", x.say(0, -1), -1001);
        for (int k = 1; k <= 10; k++) check.due("say " + k, x.say(2, 59), k);
        check.due("say full", x.say(2, 59), -1004);
        check.due("say full, NOT", x.say(1, 59), -1003);
        check.due("say full, UNKNOWN", x.say(1, 60), -1001);
        check.due("clear", x.clear(), 10);
        check.due("clear again", x.clear(), 0);
        check.due("another tongue", x.say(1, 0), 1);
        check.due("not the one before", x.say(2, 0), -1003);
        check.due("its words", x.count(4), 1);
    }

    private static void putRefusals() {
        WordBridges x = new WordBridges();
        check.due("put b", x.put(4, -1, 2), -1001);
        check.due("put b", x.put(-1, -1, 0), -1001);
        check.due("put what", x.put(0, -1, 2), -1002);
        check.due("put what", x.put(0, 0, -1), -1002);
        check.due("put of an empty one", x.put(0, -1, 0), -1003);
        x.say(0, 1);
        check.due("put into its own", x.put(0, -1, 0), -1003);
        check.due("put into its own, what", x.put(0, -1, 7), -1002);
        check.due("put", x.put(1, -1, 0), 0);
        check.due("put, sum, what 1", x.put(1, -1, 1), 0);
        x.clear();
        check.due("put when cleared", x.put(1, -1, 0), -1003);
    }

    private static void staysAsItIs() {
        WordBridges x = new WordBridges();
        Check.book(x, 0, 1, 0, "1:(1)5;");
        x.pair(1, 5, 5, 50);
        x.say(0, 1);
        x.say(0, 2);
        x.say(0, 1);
        check.due("what stays parts its neighbours", x.put(1, -1, 0), 0);
        check.due("word 0", x.put(1, 0, 0), 5);
        check.due("sense 0", x.put(1, 0, 1), 0);
        check.due("word 1 stays", x.put(1, 1, 0), -1);
        check.due("its sense", x.put(1, 1, 1), -1);
        check.due("word 2", x.put(1, 2, 0), 5);
        int[] none = {3, 9, 10, 11, -2, Integer.MIN_VALUE, Integer.MAX_VALUE};
        for (int i : none) {
            check.due("no word " + i, x.put(1, i, 0), -1);
            check.due("no sense " + i, x.put(1, i, 1), -1);
        }
        x.clear();
        x.say(0, 1);
        x.say(0, 1);
        check.due("side by side", x.put(1, -1, 1), 60);
        check.due("what is left of the longer one", x.put(1, 2, 0), -1);
    }

    private static void firstOfLikeOnes() {
        WordBridges x = new WordBridges();
        Check.book(x, 0, 1, 0, "1:9,8|1,2;2:7|6;3:5*,4;");
        for (int w = 1; w <= 3; w++) x.say(0, w);
        check.due("first place, not the least word", x.put(1, 0, 0), 9);
        check.due("first sense", x.put(1, 1, 0), 7);
        check.due("aged ones too", x.put(1, 2, 0), 5);
        x.pair(1, 8, 6, 20);
        x.pair(1, 9, 6, 20);
        x.pair(1, 1, 7, 20);
        check.due("the first word decides", x.put(1, 0, 0), 9);
        check.due("the second one follows", x.put(1, 1, 0), 6);
        check.due("its sense", x.put(1, 1, 1), 1);
        check.due("sum", x.put(1, -1, 0), 20);
    }

    private static void strengths() {
        WordBridges x = new WordBridges();
        Check.book(x, 0, 1, 0, "1:1,2;2:3,4;");
        x.say(0, 1);
        x.say(0, 2);
        x.pair(1, 3, 2, 99);
        check.due("not in the other order", x.put(1, -1, 0), 0);
        x.pair(0, 2, 3, 99);
        check.due("not of another tongue", x.put(1, -1, 0), 0);
        x.pair(1, 2, 4, 40);
        x.pair(1, 1, 4, 30);
        check.due("the most", x.put(1, -1, 0), 40);
        x.pair(1, 2, 4, 1);
        check.due("of one told twice the last", x.put(1, -1, 0), 30);
        check.due("chosen by it", x.put(1, 0, 0), 1);
        x.pair(1, 2, 4, 31);
        check.due("told a third time", x.put(1, 0, 0), 2);
    }

    private static void fields() {
        WordBridges x = new WordBridges();
        Check.book(x, 0, 1, 0, "1:1|(0)2|(3)3;2:4|(3)5|(0)6;");
        x.say(0, 1);
        x.say(0, 2);
        check.due("one field", x.put(1, -1, 0), 10);
        check.due("field 0 is one", x.put(1, 0, 1), 1);
        check.due("with it", x.put(1, 1, 1), 2);
        x.pair(1, 1, 4, 9);
        check.due("two without field have none in common", x.put(1, -1, 0), 10);
        x.pair(1, 1, 4, 10);
        check.due("of like ones the first", x.put(1, 0, 0), 1);
        x.pair(1, 3, 5, 1);
        check.due("both add up", x.put(1, -1, 0), 11);
        check.due("by the third sense", x.put(1, 0, 1), 2);
    }

    private static void laterWordsDecide() {
        WordBridges x = new WordBridges();
        Check.book(x, 0, 1, 0, "1:1,2;2:3,4;3:5,6;");
        for (int w = 1; w <= 3; w++) x.say(0, w);
        x.pair(1, 1, 3, 50);
        x.pair(1, 2, 4, 20);
        x.pair(1, 4, 6, 40);
        check.due("the most in all", x.put(1, -1, 0), 60);
        check.due("word 0", x.put(1, 0, 0), 2);
        check.due("word 1", x.put(1, 1, 0), 4);
        check.due("word 2", x.put(1, 2, 0), 6);
        x.pair(1, 3, 6, 10);
        check.due("as much", x.put(1, -1, 0), 60);
        check.due("of like ones the first", x.put(1, 0, 0), 1);
        check.due("and with it", x.put(1, 1, 0), 3);
        check.due("to the end", x.put(1, 2, 0), 6);
    }

    private static void byTasteAndDay() {
        WordBridges x = new WordBridges();
        Check.book(x, 0, 1, 5, "1:1*|2*,3;2:4*;");
        x.say(0, 1);
        x.say(0, 2);
        x.pair(1, 1, 4, 30);
        check.due("with aged", x.put(1, -1, 0), 30);
        x.taste(false);
        check.due("without aged", x.put(1, -1, 0), 0);
        check.due("the first that counts", x.put(1, 0, 0), 3);
        check.due("its sense keeps its number", x.put(1, 0, 1), 1);
        check.due("a word without any stays", x.put(1, 1, 0), -1);
        check.due("no sense", x.put(1, 1, 1), -1);
        x.taste(true);
        x.now(4);
        check.due("ahead of the book", x.put(1, 0, 0), -1);
        x.now(5);
        check.due("on its day", x.put(1, 0, 0), 1);
    }

    private static void longest() {
        WordBridges x = new WordBridges();
        Check.book(x, 3, 0, 0, "0:(1)0,1,2,3,4,5|(2)6,7,8,9,10,11|(3)12,13,14,15,16,17;");
        for (int k = 0; k < 10; k++) x.say(3, 0);
        check.due("one field all along", x.put(0, -1, 0), 90);
        for (int k = 0; k < 9; k++) x.pair(0, 17 - k, 16 - k, 99);
        check.due("down all along", x.put(0, -1, 0), 9 * 99 + 80);
        for (int k = 0; k < 10; k++) {
            check.due("word " + k, x.put(0, k, 0), 17 - k);
            check.due("sense " + k, x.put(0, k, 1), (17 - k) / 6);
        }
    }
}
