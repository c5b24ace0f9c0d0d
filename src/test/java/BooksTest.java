/** Promises 1 to 8. */
public final class BooksTest {
    private static final Check check = new Check("BooksTest");

    public static void main(String[] args) {
        newObject();
        feed();
        bookRefusals();
        faultKept();
        faultsOne();
        faultsTwo();
        faultsThreeToFive();
        firstOfSeveralFaults();
        blanks();
        largestBook();
        about();
        nowAndTaste();
        count();
        check.end();
    }

    private static void newObject() {
        WordBridges x = new WordBridges();
        for (int what = 0; what <= 4; what++) check.due("new count(" + what + ")", x.count(what), 0);
        check.due("new fault()", x.fault(), -1);
        check.due("new now()", x.now(3), 999);
        check.due("new taste()", x.taste(true), 1);
        check.due("new about(0, 0)", x.about(0, 0), -1001);
        check.due("new gives", x.gives(0, 0, 1), 0);
        check.due("new clear()", x.clear(), 0);
        check.due("new friends(NONE)", x.friends(-1), 0);
    }

    private static void feed() {
        WordBridges x = new WordBridges();
        check.due("feed(0)", x.feed(0, 49), -1002);
        check.due("feed(9)", x.feed(9, 49), -1002);
        check.due("feed(-1)", x.feed(-1, 49), -1002);
        check.due("feed(least)", x.feed(Integer.MIN_VALUE, 49), -1002);
        check.due("count(1) unchanged", x.count(1), 0);
        // the bytes above the n lowest are not looked at
        check.due("feed(1) of more", x.feed(1, 0x4142434445464737L), 1);
        check.due("feed(3)", x.feed(3, 0x3a383bL), 4);
        check.due("book of 7:8;", x.book(0, 1, 0), 0);
        check.due("gives of 7:8;", x.gives(0, 7, 1), 1L << 8);
        for (int k = 1; k <= 29; k++) check.due("feed 8, time " + k, x.feed(8, 0x2020202020202020L), 8 * k);
        check.due("feed 7", x.feed(7, 0x20202020202020L), 239);
        check.due("feed 2, full", x.feed(2, 0x2020), -1004);
        check.due("feed 9, full", x.feed(9, 0), -1002);
        check.due("feed 1, to the full", x.feed(1, 0x20), 240);
        check.due("feed 1, full", x.feed(1, 0x20), -1004);
        check.due("count(1) full", x.count(1), 240);
        check.due("book of blanks", x.book(0, 1, 0), 1);
        check.due("entries of blanks", x.about(1, 3), 0);
        check.due("feed again", x.feed(1, 0x20), 1);
        // a byte of 128 and more is a byte as well
        check.faulty("\u00b1:1;", 1, 0);
        check.faulty("1:1;\u00ff", 1, 4);
    }

    private static void bookRefusals() {
        WordBridges x = new WordBridges();
        Check.feed(x, "1:2;");
        check.due("book(-1, 0, 0)", x.book(-1, 0, 0), -1001);
        check.due("book(0, 4, 0)", x.book(0, 4, 0), -1001);
        check.due("book(4, 4, 1000)", x.book(4, 4, 1000), -1001);
        check.due("book(1, 1, 0)", x.book(1, 1, 0), -1002);
        check.due("book(0, 1, -1)", x.book(0, 1, -1), -1002);
        check.due("book(0, 1, 1000)", x.book(0, 1, 1000), -1002);
        check.due("the text stays", x.count(1), 4);
        check.due("no book", x.count(0), 0);
        check.due("book(0, 1, 999)", x.book(0, 1, 999), 0);
        check.due("the text is empty", x.count(1), 0);
        for (int k = 1; k < 8; k++) check.due("book " + k, x.book(3, 2, 0), k);
        Check.feed(x, "1:x;");
        check.due("ninth book", x.book(0, 1, 0), -1004);
        check.due("ninth book, OUTSIDE", x.book(0, 0, 0), -1002);
        check.due("ninth book, UNKNOWN", x.book(0, 9, 0), -1001);
        check.due("the text stays when full", x.count(1), 4);
        check.due("no fault of a full shelf", x.fault(), -1);
        check.due("still eight", x.count(0), 8);
    }

    private static void faultKept() {
        WordBridges x = new WordBridges();
        check.due("faulty book", Check.book(x, 0, 1, 0, "1:2;x"), -11);
        check.due("fault", x.fault(), 4);
        check.due("the text is empty behind a fault", x.count(1), 0);
        check.due("refused book", x.book(0, 0, 0), -1002);
        check.due("refused book", x.book(0, 7, 0), -1001);
        check.due("fault stays", x.fault(), 4);
        check.due("nothing of it is kept", x.gives(0, 1, 1), 0);
        check.due("good book", Check.book(x, 0, 1, 0, "1:3;"), 0);
        check.due("no fault", x.fault(), -1);
        check.due("nothing of the faulty one is in it", x.gives(0, 1, 1), 1L << 3);
        check.due("faulty book again", Check.book(x, 0, 1, 0, "5:2*|(2)3;60:1;"), -12);
        check.due("fault again", x.fault(), 10);
        check.due("good book again", Check.book(x, 0, 1, 0, "6:2;"), 1);
        check.due("entries", x.about(1, 3), 1);
        check.due("senses", x.about(1, 4), 1);
        check.due("words", x.about(1, 5), 1);
        check.due("aged", x.about(1, 6), 0);
        check.due("field", x.entry(0, 6, 1, 2), -1);
        check.due("no entry", x.entry(0, 5, 1, 0), -1);
    }

    private static void faultsOne() {
        check.faulty("", 0, -1);
        check.faulty(";", 1, 0);
        check.faulty("1", 1, 1);
        check.faulty("1;", 1, 1);
        check.faulty("1:", 1, 2);
        check.faulty("1:;", 1, 2);
        check.faulty("1:2", 1, 3);
        check.faulty("1:2*", 1, 4);
        check.faulty("1:2**;", 1, 4);
        check.faulty("1:2*3;", 1, 4);
        check.faulty("1:2,", 1, 4);
        check.faulty("1:2,;", 1, 4);
        check.faulty("1:2,(1)3;", 1, 4);
        check.faulty("1:2|", 1, 4);
        check.faulty("1:2|;", 1, 4);
        check.faulty("1:|2;", 1, 2);
        check.faulty("1:2||3;", 1, 4);
        check.faulty("1:(", 1, 3);
        check.faulty("1:()2;", 1, 3);
        check.faulty("1:(1", 1, 4);
        check.faulty("1:(1*)2;", 1, 4);
        check.faulty("1:(1)", 1, 5);
        check.faulty("1:(1);", 1, 5);
        check.faulty("1:(1)(2)3;", 1, 5);
        check.faulty("1:(1),3;", 1, 5);
        check.faulty("1:2(1);", 1, 3);
        check.faulty("1:2;;", 1, 4);
        check.faulty("1*:2;", 1, 1);
        check.faulty("1:2:3;", 1, 3);
        check.faulty("(1)1:2;", 1, 0);
        check.faulty("-1:2;", 1, 0);
        check.faulty("1:2;\n", 1, 4);
        check.faulty("1:1|2||", 1, 6);
        check.faulty("1:1|2|3||", 5, 7);
        check.faulty("1:1,2,3,4,5,6,;", 1, 14);
    }

    private static void faultsTwo() {
        check.faulty("59:59;", 0, -1);
        check.faulty("60:1;", 2, 0);
        check.faulty("1:60;", 2, 2);
        check.faulty("1:99*", 2, 2);
        check.faulty("001:1;", 2, 0);
        check.faulty("1:000;", 2, 2);
        check.faulty("1:1234567890123456789012345;", 2, 2);
        check.faulty("01:02;", 0, -1);
        check.faulty("1:(5)1;", 0, -1);
        check.faulty("1:(05)1;", 0, -1);
        check.faulty("1:(6)1;", 2, 3);
        check.faulty("1:(10)1;", 2, 3);
        check.faulty("1:(005)1;", 2, 3);
        check.faulty("1:(59)1;", 2, 3);
        check.faulty("60", 2, 0);
        check.faulty("123", 2, 0);
        check.faulty("60x", 2, 0);
        check.faulty("12x", 1, 2);
        check.faulty("0:0;", 0, -1);
    }

    private static void faultsThreeToFive() {
        check.faulty("1:2;2:1;01:3;", 3, 8);
        check.faulty("1:2;1", 3, 4);
        check.faulty("1:2;1x", 3, 4);
        check.faulty("1:1,1;", 4, 4);
        check.faulty("1:1,01*;", 4, 4);
        check.faulty("1:1*,2,1;", 4, 7);
        check.faulty("1:1|1;", 0, -1);
        check.faulty("1:1;2:1;", 0, -1);
        check.faulty("1:1|2|3;", 0, -1);
        check.faulty("1:1|2|3|4;", 5, 7);
        check.faulty("1:1|2|3|", 5, 7);
        check.faulty("1:1|2|3*|", 5, 8);
        check.faulty("1:1,2,3,4,5,6;", 0, -1);
        check.faulty("1:1,2,3,4,5,6,7;", 5, 14);
        check.faulty("0:1,2,3,4,5,6,7;", 5, 14);
        check.faulty("1:1,2,3,4,5,6,17x", 5, 14);
        check.faulty("1:1,2,3,4,5,6|1,2,3,4,5,6|1,2,3,4,5,6;", 0, -1);
        check.faulty("1:1|2|3;2:1|2|3;", 0, -1);
    }

    private static void firstOfSeveralFaults() {
        check.faulty("1:1,2,3,4,5,6,1;", 4, 14);
        check.faulty("1:1,2,3,4,5,6,60;", 2, 14);
        check.faulty("1:1,2,3,4,5,6,111;", 2, 14);
        check.faulty("1:1;111:1;", 2, 4);
        check.faulty("1:1;1:60;", 3, 4);
        check.faulty("1:60;x", 2, 2);
        check.faulty("x1:60;", 1, 0);
        check.faulty("1:1,1|60;", 4, 4);
        check.faulty("1:1,60,1;", 2, 4);
    }

    private static void blanks() {
        check.faulty("  1 : ( 2 ) 3 * , 4 | 5 ; ", 0, -1);
        check.faulty("1 2:3;", 1, 2);
        check.faulty("1:1 2;", 1, 4);
        check.faulty("1:( 1 2)3;", 1, 6);
        check.faulty("1:2 ", 1, 4);
        check.faulty("   ", 0, -1);
        check.faulty("1 : 1 , 1;", 4, 8);
        check.faulty("1:1* *;", 1, 5);
        WordBridges x = new WordBridges();
        check.due("book with blanks", Check.book(x, 2, 3, 0, " 1 : ( 2 ) 3 * , 14 | 5 ; "), 0);
        check.due("gives with blanks", x.gives(2, 1, 3), Check.set(3, 14, 5));
        check.due("field with blanks", x.entry(2, 1, 3, 2), 2);
        check.due("aged with blanks", x.about(0, 6), 1);
    }

    private static void largestBook() {
        StringBuilder text = new StringBuilder();
        for (int w = 0; w < 10; w++) text.append(w).append(":1;");
        for (int w = 10; w < 50; w++) text.append(w).append(":2;");
        check.due("length", text.length(), 240);
        WordBridges x = new WordBridges();
        check.due("feed of the largest", Check.feed(x, text.toString()), 240);
        check.due("the largest", x.book(0, 1, 0), 0);
        check.due("its entries", x.about(0, 3), 50);
        check.due("its words", x.about(0, 5), 50);
        check.due("the last", x.gives(0, 49, 1), 4);
    }

    private static void about() {
        WordBridges x = new WordBridges();
        check.due("first", Check.book(x, 3, 1, 17, "5:1,2*|(4)3;59:59*|59*|(0)59*,0;"), 0);
        check.due("second", Check.book(x, 1, 0, 999, ""), 1);
        int[] first = {3, 1, 17, 2, 5, 7, 4};
        int[] second = {1, 0, 999, 0, 0, 0, 0};
        x.taste(false);
        x.now(0);
        for (int what = 0; what < 7; what++) {
            check.due("about(0, " + what + ")", x.about(0, what), first[what]);
            check.due("about(1, " + what + ")", x.about(1, what), second[what]);
        }
        check.due("about(0, -1)", x.about(0, -1), -1002);
        check.due("about(0, 7)", x.about(0, 7), -1002);
        check.due("about(2, 0)", x.about(2, 0), -1001);
        check.due("about(-1, 0)", x.about(-1, 0), -1001);
        check.due("about(2, 7)", x.about(2, 7), -1001);
        check.due("about(most, 0)", x.about(Integer.MAX_VALUE, 0), -1001);
    }

    private static void nowAndTaste() {
        WordBridges x = new WordBridges();
        check.due("now(0)", x.now(0), 999);
        check.due("now(-1)", x.now(-1), -1002);
        check.due("now(1000)", x.now(1000), -1002);
        check.due("now(999)", x.now(999), 0);
        check.due("now(5)", x.now(5), 999);
        check.due("taste(false)", x.taste(false), 1);
        check.due("taste(false)", x.taste(false), 0);
        check.due("taste(true)", x.taste(true), 0);
        check.due("taste(true)", x.taste(true), 1);
    }

    private static void count() {
        WordBridges x = new WordBridges();
        Check.book(x, 0, 1, 0, "1:1;");
        Check.feed(x, "12");
        x.alike(0, 1, 1, 1);
        x.alike(0, 1, 1, 2);
        x.alike(0, 1, 1, 3);
        for (int k = 0; k < 4; k++) x.pair(0, 1, 1, 1);
        for (int k = 0; k < 5; k++) x.say(0, 1);
        for (int what = 0; what <= 4; what++) check.due("count(" + what + ")", x.count(what), what + 1);
        check.due("count(-1)", x.count(-1), -1002);
        check.due("count(5)", x.count(5), -1002);
    }
}
