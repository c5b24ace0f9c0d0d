/** Promises 16 to 21. */
public final class ThroughTest {
    private static final Check check = new Check("ThroughTest");

    public static void main(String[] args) {
        weight();
        weightByTaste();
        sure();
        best();
        bestNeedsAWay();
        bridge();
        throughRefusals();
        alike();
        friends();
        check.end();
    }

    private static void weight() {
        WordBridges x = new WordBridges();
        Check.book(x, 0, 1, 0, "0:(1)1,2|3|(2)1;");
        Check.book(x, 1, 2, 0, "1:(1)5|5,6|(2)5;2:(2)5|(1)6;3:(3)5|(4)5;");
        // by 1 in sense 0: senses 0 and 1; by 3: both; by 1 in sense 2: senses 1 and 2
        check.due("weight of 5", x.weight(0, 0, 1, 2, 5), 6);
        check.due("weight of 6", x.weight(0, 0, 1, 2, 6), 3);
        check.due("weight of 7", x.weight(0, 0, 1, 2, 7), 0);
        check.due("weight without entry", x.weight(0, 1, 1, 2, 5), 0);
        check.due("weight through another", x.weight(0, 0, 3, 2, 5), 0);
        x.now(0);
        Check.book(x, 1, 2, 1, "1:9;");
        check.due("a book of tomorrow", x.weight(0, 0, 1, 2, 5), 6);
        x.now(1);
        check.due("a book of today", x.weight(0, 0, 1, 2, 5), 2);
    }

    private static void weightByTaste() {
        WordBridges x = new WordBridges();
        Check.book(x, 0, 1, 0, "0:1*,2;");
        Check.book(x, 1, 2, 0, "1:5;2:5|5*;");
        check.due("with aged", x.weight(0, 0, 1, 2, 5), 3);
        x.taste(false);
        check.due("without aged", x.weight(0, 0, 1, 2, 5), 1);
    }

    private static void fraction(WordBridges x, int t, int upper, int lower) {
        check.due("sure of " + t + ", upper", x.sure(0, 0, 1, 2, t, 0), upper);
        check.due("sure of " + t + ", lower", x.sure(0, 0, 1, 2, t, 1), lower);
    }

    private static void sure() {
        WordBridges x = new WordBridges();
        fraction(x, 0, 0, 1);
        Check.book(x, 0, 1, 0, "0:1,2|2,3;");
        fraction(x, 0, 0, 1);
        Check.book(x, 2, 1, 0, "5:1,2,3;6:1;7:1,2,3,4,5,6|7*,8,9;8:9;9:1,2,9;");
        fraction(x, 5, 1, 1);
        fraction(x, 6, 1, 2);
        fraction(x, 7, 1, 2);
        fraction(x, 8, 0, 1);
        fraction(x, 9, 2, 3);
        x.taste(false);
        fraction(x, 7, 6, 11);
        // no WAY needs to lead there
        check.due("no way", x.weight(0, 0, 1, 2, 5), 0);
    }

    private static void best() {
        WordBridges x = new WordBridges();
        Check.book(x, 0, 1, 0, "0:1,2;");
        Check.book(x, 1, 2, 0, "1:9,5,6;2:6,7;");
        check.due("the greatest weight, none sure", x.best(0, 0, 1, 2), 6);
        Check.book(x, 2, 1, 0, "9:1;7:1;");
        check.due("of like ones the least", x.best(0, 0, 1, 2), 7);
        Check.book(x, 2, 1, 0, "9:1,2;");
        check.due("the surest", x.best(0, 0, 1, 2), 9);
        // 2/3 is more than 3/5, though its numbers are less
        WordBridges y = new WordBridges();
        Check.book(y, 3, 0, 0, "0:1,2,3,4|5;");
        Check.book(y, 0, 1, 0, "1:8,9;2:8;");
        Check.book(y, 1, 0, 0, "8:1,2,3,10,11;9:1,2;");
        check.due("3/5", y.sure(3, 0, 0, 1, 8, 0) * 10 + y.sure(3, 0, 0, 1, 8, 1), 35);
        check.due("4/7", y.sure(3, 0, 0, 1, 9, 0) * 10 + y.sure(3, 0, 0, 1, 9, 1), 47);
        check.due("the greater fraction", y.best(3, 0, 0, 1), 8);
    }

    private static void bestNeedsAWay() {
        WordBridges x = new WordBridges();
        check.due("no books", x.best(0, 0, 1, 2), -1);
        Check.book(x, 0, 1, 0, "0:(1)1;1:2*;");
        Check.book(x, 1, 2, 0, "1:(2)5;2:6;");
        Check.book(x, 2, 1, 0, "5:1;7:1;");
        check.due("fields do not fit, nor does a turned book lead", x.best(0, 0, 1, 2), -1);
        check.due("by an aged one", x.best(0, 1, 1, 2), 6);
        x.taste(false);
        check.due("not by an aged one", x.best(0, 1, 1, 2), -1);
    }

    private static void bridge() {
        WordBridges x = new WordBridges();
        check.due("no books", x.bridge(1, 0, 3), -1);
        Check.book(x, 1, 2, 0, "0:1,2;");
        Check.book(x, 2, 3, 0, "1:5;");
        check.due("by 2 alone", x.bridge(1, 0, 3), 2);
        Check.book(x, 1, 0, 0, "0:7;");
        Check.book(x, 0, 3, 0, "7:9;");
        check.due("of like ones the least", x.bridge(1, 0, 3), 0);
        Check.book(x, 2, 3, 0, "1:5|5;");
        check.due("the greater weight", x.bridge(1, 0, 3), 2);
        Check.book(x, 3, 0, 0, "9:7,8;");
        check.due("the surer", x.bridge(1, 0, 3), 0);
        Check.book(x, 3, 2, 0, "5:1,2;");
        check.due("surer still", x.bridge(1, 0, 3), 2);
        check.due("no way", x.bridge(1, 1, 3), -1);
        check.due("not through an end", x.bridge(1, 0, 2), -1);
    }

    private static void throughRefusals() {
        WordBridges x = new WordBridges();
        int[] tongues = {-1, 4};
        for (int n : tongues) {
            check.due("weight a", x.weight(n, 0, 1, 1, 0), -1001);
            check.due("weight m", x.weight(0, 0, n, 0, 0), -1001);
            check.due("weight c", x.weight(0, 0, 0, n, 0), -1001);
            check.due("sure a", x.sure(n, 0, 1, 2, 0, 5), -1001);
            check.due("sure m", x.sure(0, 0, n, 2, 0, 5), -1001);
            check.due("sure c", x.sure(0, 0, 1, n, 0, 5), -1001);
            check.due("best a", x.best(n, 0, 1, 1), -1001);
            check.due("best m", x.best(0, 0, n, 0), -1001);
            check.due("best c", x.best(0, 0, 0, n), -1001);
            check.due("bridge a", x.bridge(n, 0, 1), -1001);
            check.due("bridge c", x.bridge(0, 0, n), -1001);
        }
        int[] words = {-1, 60};
        for (int n : words) {
            check.due("weight w", x.weight(0, n, 0, 0, 0), -1001);
            check.due("weight t", x.weight(0, 0, 0, 0, n), -1001);
            check.due("sure w", x.sure(0, n, 0, 0, 0, 5), -1001);
            check.due("sure t", x.sure(0, 0, 0, 0, n, 5), -1001);
            check.due("best w", x.best(0, n, 0, 0), -1001);
            check.due("bridge w", x.bridge(0, n, 0), -1001);
        }
        int[][] twice = {{0, 0, 1}, {0, 1, 0}, {1, 0, 0}, {2, 2, 2}};
        for (int[] t : twice) {
            check.due("weight twice", x.weight(t[0], 0, t[1], t[2], 0), -1002);
            check.due("sure twice", x.sure(t[0], 0, t[1], t[2], 0, 0), -1002);
            check.due("best twice", x.best(t[0], 0, t[1], t[2]), -1002);
        }
        check.due("sure what -1", x.sure(0, 0, 1, 2, 0, -1), -1002);
        check.due("sure what 2", x.sure(0, 0, 1, 2, 0, 2), -1002);
        check.due("bridge twice", x.bridge(2, 0, 2), -1002);
    }

    private static void alike() {
        WordBridges x = new WordBridges();
        check.due("alike", x.alike(0, 1, 1, 2), 1);
        check.due("alike again", x.alike(0, 1, 1, 2), -1003);
        check.due("alike turned", x.alike(1, 2, 0, 1), -1003);
        check.due("alike crossed", x.alike(0, 2, 1, 1), 2);
        check.due("alike in other tongues", x.alike(0, 1, 2, 2), 3);
        check.due("alike twice", x.alike(1, 2, 1, 3), -1002);
        check.due("alike twice, UNKNOWN", x.alike(4, 2, 4, 3), -1001);
        check.due("alike a", x.alike(-1, 0, 1, 0), -1001);
        check.due("alike w", x.alike(0, 60, 0, 0), -1001);
        check.due("alike b", x.alike(0, 0, 4, 0), -1001);
        check.due("alike v", x.alike(0, 0, 0, -1), -1001);
        for (int k = 3; k < 30; k++) check.due("alike " + k, x.alike(2, k, 3, k), k + 1);
        check.due("alike full", x.alike(2, 50, 3, 50), -1004);
        check.due("alike full, NOT", x.alike(3, 29, 2, 29), -1003);
        check.due("alike full, OUTSIDE", x.alike(3, 29, 3, 29), -1002);
        check.due("alike count", x.count(2), 30);
    }

    private static void friends() {
        WordBridges x = new WordBridges();
        check.due("friends of none", x.friends(0), -1002);
        x.alike(0, 1, 1, 1);
        x.alike(1, 2, 0, 2);
        x.alike(0, 3, 1, 3);
        check.due("open", x.friends(0), 0);
        check.due("none is false", x.friends(-1), 0);
        Check.book(x, 0, 1, 5, "1:1*;2:2;3:4;");
        check.due("true from the first", x.friends(0), 1);
        check.due("true from the second", x.friends(1), 1);
        check.due("false", x.friends(2), 2);
        Check.book(x, 1, 0, 6, "1:1;2:7;3:3;");
        check.due("true from both", x.friends(0), 1);
        check.due("has and has not", x.friends(1), 2);
        check.due("has not and has", x.friends(2), 2);
        check.due("false ones", x.friends(-1), 2);
        x.taste(false);
        check.due("an entry that has it aged has it not", x.friends(0), 2);
        check.due("false ones without aged", x.friends(-1), 3);
        x.now(4);
        check.due("open ahead of the books", x.friends(2), 0);
        check.due("friends(-2)", x.friends(-2), -1002);
        check.due("friends(3)", x.friends(3), -1002);
    }
}
