/** The boundary cases of texts and their FAULTS, and of promises 2 to 4. */
public final class TextBoundsTest {
    private static final Bounds bounds = new Bounds("TextBoundsTest");
    private static final String SIX = "0,1,2,3,4,5";

    public static void main(String[] args) {
        feedOneToEight();
        feedHighestFirst();
        feedOutside();
        feedFull();
        lengthOfTexts();
        clauses();
        senses();
        agedWords();
        bookParts();
        largestBooks();
        numbersAndBlanks();
        cannotStandThere();
        endOfTheText();
        leastOfOneByte();
        firstByte();
        faultTwo();
        faultThree();
        faultFour();
        faultFive();
        bookIsMade();
        nothingOfEarlierTexts();
        bookRefusals();
        bookFull();
        faultOfTheLatest();
        bounds.end();
    }

    private static String blanks(int n) {
        return " ".repeat(n);
    }

    /** An object whose TEXT is so many blanks. */
    private static WordBridges fed(int bytes) {
        WordBridges x = new WordBridges();
        Check.feed(x, blanks(bytes));
        return x;
    }

    // ---- promise 2

    private static void feedOneToEight() {
        bounds.of(2, "Up to eight bytes (n 1 .. 8) of a long, the highest of these first, come behind THE TEXT: how many it has.");
        for (int n = 1; n <= 8; n++) {
            WordBridges x = new WordBridges();
            bounds.due("feed(" + n + ") first", x.feed(n, 0x2020202020202020L), n);
            bounds.due("feed(" + n + ") again", x.feed(n, 0x2020202020202020L), 2 * n);
            bounds.due("count(1)", x.count(1), 2 * n);
        }
        WordBridges x = new WordBridges();
        bounds.due("feed of one byte", x.feed(1, '1'), 1);
        bounds.due("feed of eight bytes", x.feed(8, 0x3a322c332c342c35L), 9);
        bounds.due("feed of one byte behind", x.feed(1, ';'), 10);
        bounds.due("book of 1:2,3,4,5;", x.book(0, 1, 0), 0);
        bounds.due("its words", x.gives(0, 1, 1), Check.set(2, 3, 4, 5));
    }

    private static void feedHighestFirst() {
        bounds.of(2, "Up to eight bytes (n 1 .. 8) of a long, the highest of these first, come behind THE TEXT: how many it has.");
        WordBridges x = new WordBridges();
        x.feed(4, 0x313a323bL);
        bounds.due("1:2; by four bytes", x.book(0, 1, 0), 0);
        bounds.due("the highest is the head", x.gives(0, 1, 1), Check.set(2));
        // what stands above the n lowest bytes is none of these
        x.feed(4, 0x39393939343a353bL);
        bounds.due("4:5; below other bytes", x.book(0, 1, 0), 1);
        bounds.due("the lowest four alone", x.gives(0, 4, 1), Check.set(5));
        // the highest bit of all: a byte of 128 and more, in a long below 0
        x.feed(8, 0xb13a323b20202020L);
        bounds.due("a highest byte of 177", x.book(0, 1, 0), -11);
        bounds.due("its place", x.fault(), 0);
        x.feed(8, 0x363a373b202020ffL);
        bounds.due("a lowest byte of 255", x.book(0, 1, 0), -11);
        bounds.due("its place", x.fault(), 7);
        x.feed(1, -1L);
        bounds.due("the byte 255 alone", x.book(0, 1, 0), -11);
        bounds.due("its place", x.fault(), 0);
    }

    private static void feedOutside() {
        bounds.of(2, "OUTSIDE, FULL.");
        int[] outside = {0, 9, -1, Integer.MIN_VALUE, Integer.MAX_VALUE};
        for (State state : State.values()) {
            for (int n : outside) bounds.refused("feed(" + n + ")", state, x -> x.feed(n, '1'), WordBridges.OUTSIDE);
        }
    }

    private static void feedFull() {
        bounds.of(2, "OUTSIDE, FULL.");
        bounds.due("byte 1 of 240", fed(0).feed(1, ' '), 1);
        bounds.due("byte 240", fed(239).feed(1, ' '), 240);
        bounds.due("byte 241", fed(240).feed(1, ' '), WordBridges.FULL);
        bounds.due("bytes 233 to 240", fed(232).feed(8, 0x2020202020202020L), 240);
        bounds.due("bytes 234 to 241", fed(233).feed(8, 0x2020202020202020L), WordBridges.FULL);
        bounds.due("bytes 234 to 240", fed(233).feed(7, 0x2020202020202020L), 240);
        for (int n = 1; n <= 8; n++) {
            WordBridges x = fed(241 - n);
            bounds.due("feed(" + n + ") one beyond", x.feed(n, 0x3131313131313131L), WordBridges.FULL);
            bounds.due("nothing of it is taken", x.count(1), 241 - n);
            bounds.due("the text is blanks alone", x.book(0, 1, 0), 0);
            bounds.due("and empty then", x.feed(8, 0x2020202020202020L), 8);
        }
        bounds.refused("feed(1)", State.FULL, x -> x.feed(1, '1'), WordBridges.FULL);
        bounds.refused("feed(8)", State.FULL, x -> x.feed(8, '1'), WordBridges.FULL);
        bounds.due("OUTSIDE ahead of FULL", fed(240).feed(9, 0), WordBridges.OUTSIDE);
        bounds.due("OUTSIDE ahead of FULL", fed(240).feed(0, 0), WordBridges.OUTSIDE);
    }

    // ---- texts

    private static void lengthOfTexts() {
        bounds.of(0, "They are told in a text (240 bytes at most)");
        bounds.sound("");
        bounds.sound(blanks(240));
        bounds.sound(blanks(236) + "1:2;");
        bounds.sound("1:2;" + blanks(236));
        bounds.faulty(blanks(236) + "1:2,", 1, 240);
        bounds.faulty(blanks(239) + "x", 1, 239);
        bounds.faulty("x" + blanks(239), 1, 0);
        WordBridges x = new WordBridges();
        bounds.due("a text of 240 bytes", Check.book(x, 0, 1, 0, blanks(236) + "1:2;"), 0);
        bounds.due("its last clause", x.gives(0, 1, 1), Check.set(2));
        bounds.due("a text of no bytes", x.book(0, 1, 0), 1);
        bounds.due("it has no entries", x.about(1, 3), 0);
        bounds.due("the entry of before stands", x.gives(0, 1, 1), Check.set(2));
    }

    private static void clauses() {
        bounds.of(0, "clause = W ':' sense {'|' sense} ';'");
        bounds.sound("1:2;");
        bounds.sound("1:2|3;");
        bounds.sound("1:2|3|4;");
        bounds.sound("1:2;3:4;");
        bounds.faulty("1:;", 1, 2);
        bounds.faulty("1:|2;", 1, 2);
        bounds.faulty("1:2|;", 1, 4);
        bounds.faulty("1:2", 1, 3);
        bounds.faulty("1:2;;", 1, 4);
        bounds.faulty("1:2;3", 1, 5);
        bounds.faulty(":2;", 1, 0);
        bounds.faulty("1;", 1, 1);
    }

    private static void senses() {
        bounds.of(0, "sense = ['(' F ')'] T {',' T}");
        bounds.sound("1:(3)2;");
        bounds.sound("1:(3)2,4;");
        bounds.sound("1:2|(3)4;");
        bounds.sound("1:(3)2|4;");
        bounds.faulty("1:();", 1, 3);
        bounds.faulty("1:()2;", 1, 3);
        bounds.faulty("1:(3);", 1, 5);
        bounds.faulty("1:(3)(3)2;", 1, 5);
        bounds.faulty("1:(3),2;", 1, 5);
        bounds.faulty("1:(3,4)2;", 1, 4);
        bounds.faulty("1:2(3);", 1, 3);
        bounds.faulty("1:2,(3)4;", 1, 4);
        bounds.faulty("1:2,;", 1, 4);
        bounds.faulty("1:,2;", 1, 2);
        bounds.faulty("1:2,,3;", 1, 4);
        bounds.faulty("1:3)2;", 1, 3);
    }

    private static void agedWords() {
        bounds.of(0, "T = W ['*']. ('*': AGED.)");
        bounds.sound("1:2*;");
        bounds.sound("1:2*,3*|4*;");
        bounds.faulty("1:2**;", 1, 4);
        bounds.faulty("1:*;", 1, 2);
        bounds.faulty("1:*2;", 1, 2);
        bounds.faulty("1:2*3;", 1, 4);
        bounds.faulty("1*:2;", 1, 1);
        bounds.faulty("1:(3*)2;", 1, 4);
        bounds.faulty("1:(3)*2;", 1, 5);
        WordBridges x = new WordBridges();
        Check.book(x, 0, 1, 0, "1:2*,3,4*;");
        x.taste(false);
        bounds.due("the first and the last are aged", x.gives(0, 1, 1), Check.set(3));
    }

    private static void bookParts() {
        bounds.of(0, "A BOOK has ENTRIES of WORDS: of each up to 3 SENSES, each of a FIELD (0 .. 5, or NONE) and "
            + "with 1 to 6 WORDS of the other TONGUE, each maybe AGED.");
        WordBridges x = new WordBridges();
        Check.book(x, 0, 1, 0, "0:(0)0*,1*,2*,3*,4*,5*|(5)59|7;59:59;");
        int[] first = {0, 3, 0, 5, -1, 6, 1, 1};
        int[] last = {0, 1, -1, -1, -1, 1, -1, -1};
        for (int what = 0; what < 8; what++) {
            bounds.due("entry of word 0, " + what, x.entry(0, 0, 1, what), first[what]);
            bounds.due("entry of word 59, " + what, x.entry(0, 59, 1, what), last[what]);
        }
        x.taste(false);
        bounds.due("six aged words of a sense", x.entry(0, 0, 1, 5), 0);
        bounds.due("the other senses", x.gives(0, 0, 1), Check.set(59, 7));
        bounds.sound("1:1|2|3;");
        bounds.faulty("1:1|2|3|4;", 5, 7);
        bounds.sound("1:" + SIX + ";");
        bounds.faulty("1:" + SIX + ",6;", 5, 14);
        bounds.sound("1:(5)1;");
        bounds.faulty("1:(6)1;", 2, 3);
    }

    private static String repeated(String[] parts) {
        StringBuilder text = new StringBuilder();
        for (String part : parts) text.append(part);
        return text.toString();
    }

    private static void parts(String text, int entries, int senses, int words, int aged) {
        WordBridges x = new WordBridges();
        bounds.due("bytes of " + text, Check.feed(x, text), 240);
        bounds.due("book of " + text, x.book(3, 0, 999), 0);
        int[] due = {3, 0, 999, entries, senses, words, aged};
        for (int what = 0; what < 7; what++) bounds.due("about, " + what, x.about(0, what), due[what]);
    }

    private static void largestBooks() {
        bounds.of(5, "what = 0, 1 its TONGUES, 2 DAY, 3 ENTRIES, 4 SENSES, 5 WORDS in all SENSES, 6 AGED ones.");
        String[] entries = new String[50];
        for (int w = 0; w < 50; w++) entries[w] = w + ":1;";
        parts(repeated(entries), 50, 50, 50, 0);
        String[] senses = new String[28];
        for (int w = 0; w < 27; w++) senses[w] = w + ":1|1|1;";
        senses[27] = "27:1|1;";
        parts(repeated(senses), 28, 83, 83, 0);
        String[] words = new String[7];
        for (int w = 0; w < 6; w++) words[w] = w + ":" + SIX + "|" + SIX + "|" + SIX + ";";
        words[6] = "6:0,1,2,3,4;";
        parts(repeated(words), 7, 19, 113, 0);
        String aged = "0*,1*,2*,3*,4*,5*";
        String[] old = new String[5];
        for (int w = 0; w < 4; w++) old[w] = w + ":" + aged + "|" + aged + "|" + aged + ";";
        old[4] = "4:0*,1*,2*|0* ; ";
        parts(repeated(old), 5, 14, 76, 76);
    }

    private static void numbersAndBlanks() {
        bounds.of(0, "NUMBERS have one or two figures; blanks (32) may stand anywhere but within NUMBERS.");
        bounds.sound("1:2;");
        bounds.sound("01:02;");
        bounds.sound("00:00;");
        bounds.sound("1:(03)2;");
        bounds.faulty("001:2;", 2, 0);
        bounds.faulty("1:002;", 2, 2);
        bounds.faulty("1:(003)2;", 2, 3);
        bounds.sound(" 1 : ( 2 ) 3 * , 4 | 5 ; ");
        bounds.sound("  1  :  (  2  )  3  *  ,  4  |  5  ;  ");
        bounds.faulty("1 1:2;", 1, 2);
        bounds.faulty("1:1 1;", 1, 4);
        bounds.faulty("1:(0 1)1;", 1, 5);
        bounds.faulty("1:2* *;", 1, 5);
        int[] noBlanks = {0, 9, 10, 13, 31, 33, 160};
        for (int sign : noBlanks) bounds.faulty("1:" + (char) sign + "2;", 1, 2);
        WordBridges x = new WordBridges();
        Check.book(x, 0, 1, 0, " 01 : ( 02 ) 3 * , 14 | 5 ; ");
        bounds.due("words between blanks", x.gives(0, 1, 1), Check.set(3, 14, 5));
        bounds.due("a field between blanks", x.entry(0, 1, 1, 2), 2);
        bounds.due("aged behind a blank", x.about(0, 6), 1);
    }

    // ---- faults

    /**
     * Every byte behind every kind of beginning. A blank stands behind numbers, as a figure would be one of
     * theirs there.
     */
    private static void cannotStandThere() {
        bounds.of(0, "FAULTS, at the first byte that has one (the end at the text's length), of these the least: 1 it cannot stand there.");
        String[][] beginnings = {
            {"", "N"}, {"1 ", ":"}, {"1:", "N("}, {"1:(", "F"}, {"1:(3 ", ")"}, {"1:(3)", "N"}, {"1:2 ", "*,|;"},
            {"1:2*", ",|;"}, {"1:2,", "N"}, {"1:2|", "N("}, {"1:2;", "N"}, {"1:(3)2 ", "*,|;"}, {"1:2|(3)4*", ",|;"}};
        for (String[] beginning : beginnings) {
            for (int sign = 0; sign < 256; sign++) behind(beginning[0], beginning[1], (char) sign);
        }
    }

    private static void behind(String before, String allowed, char sign) {
        boolean figure = sign >= '0' && sign <= '9';
        boolean closed = before.trim().isEmpty() || before.endsWith(";");
        int place = before.length();
        String text = before + sign;
        if (sign == ' ') {
            if (closed) bounds.sound(text);
            else bounds.faulty(text, 1, place + 1);
        } else if (figure && allowed.contains("F")) {
            if (sign > '5') bounds.faulty(text, 2, place);
            else bounds.faulty(text, 1, place + 1);
        } else if (figure && allowed.contains("N")) {
            if (before.endsWith(";") && sign == '1') bounds.faulty(text, 3, place);
            else if (before.endsWith(",") && sign == '2') bounds.faulty(text, 4, place);
            else bounds.faulty(text, 1, place + 1);
        } else if (sign == ';' && allowed.contains(";")) {
            bounds.sound(text);
        } else if (sign != 'N' && sign != 'F' && allowed.indexOf(sign) >= 0) {
            bounds.faulty(text, 1, place + 1);
        } else {
            bounds.faulty(text, 1, place);
        }
    }

    private static void endOfTheText() {
        bounds.of(0, "FAULTS, at the first byte that has one (the end at the text's length), of these the least: 1 it cannot stand there.");
        String[] cut = {"1", "1:", "1:(", "1:(3", "1:(3)", "1:(3)2", "1:2", "1:2*", "1:2,", "1:2,3", "1:2|", "1:2|3*", "1:2;4"};
        for (String text : cut) {
            bounds.faulty(text, 1, text.length());
            bounds.faulty(text + " ", 1, text.length() + 1);
            bounds.faulty(blanks(240 - text.length()) + text, 1, 240);
        }
        bounds.sound("1:2;");
        bounds.sound("1:2;  ");
    }

    private static void leastOfOneByte() {
        bounds.of(0, "FAULTS, at the first byte that has one (the end at the text's length), of these the least: 1 it cannot stand there.");
        bounds.faulty("1 600:1;", 1, 2);
        bounds.faulty("1:2 99;", 1, 4);
        bounds.faulty("1:2* 2;", 1, 5);
        bounds.faulty("1:1|2|3,|4;", 1, 8);
        bounds.faulty("1:1|2|3|", 5, 7);
        bounds.faulty("1:2;001:3;", 2, 4);
        bounds.faulty("1:2,002;", 2, 4);
        bounds.faulty("1:" + SIX + ",60;", 2, 14);
        bounds.faulty("1:" + SIX + ",006;", 2, 14);
        bounds.faulty("1:" + SIX + ",000;", 2, 14);
        bounds.faulty("1:" + SIX + ",0;", 4, 14);
        bounds.faulty("1:" + SIX + ",05;", 4, 14);
        bounds.faulty("1:" + SIX + ",6;", 5, 14);
    }

    private static void firstByte() {
        bounds.of(0, "FAULTS, at the first byte that has one (the end at the text's length), of these the least: 1 it cannot stand there.");
        bounds.faulty("60x", 2, 0);
        bounds.faulty("1:2;1", 3, 4);
        bounds.faulty("1:2;1x", 3, 4);
        bounds.faulty("1:2,2x", 4, 4);
        bounds.faulty("1:1|2|3|x", 5, 7);
        bounds.faulty("1:" + SIX + ",6x", 5, 14);
        bounds.faulty("1:1|2|3|60;", 5, 7);
        bounds.faulty("1:60|2|3|4;", 2, 2);
        bounds.faulty("1:2,2;1:3;", 4, 4);
        bounds.faulty("1:2;1:3,3;", 3, 4);
        bounds.faulty("x60:1;", 1, 0);
    }

    private static void faultTwo() {
        bounds.of(0, "2 a NUMBER of three figures or more, or out of its bounds (W 0 .. 59, F 0 .. 5; at its first).");
        bounds.sound("0:0;");
        bounds.sound("59:59;");
        bounds.faulty("60:1;", 2, 0);
        bounds.faulty("99:1;", 2, 0);
        bounds.faulty("1:60;", 2, 2);
        bounds.faulty("1:2,60*;", 2, 4);
        bounds.sound("1:(0)1;");
        bounds.sound("1:(5)1;");
        bounds.faulty("1:(6)1;", 2, 3);
        bounds.faulty("1:( 06 )1;", 2, 4);
        bounds.faulty("1:(10)1;", 2, 3);
        bounds.faulty("100:1;", 2, 0);
        bounds.faulty("1:010;", 2, 2);
        bounds.faulty("1:(000)1;", 2, 3);
        // as ints these would be 0 and 1 again
        bounds.faulty("4294967296:1;", 2, 0);
        bounds.faulty("1:4294967297;", 2, 2);
        bounds.faulty("1:" + "0".repeat(238), 2, 2);
        bounds.faulty("0".repeat(240), 2, 0);
    }

    private static void faultThree() {
        bounds.of(0, "3 a WORD that has an ENTRY in this BOOK already (at its first).");
        bounds.faulty("1:2;1:3;", 3, 4);
        bounds.faulty("1:2; 01:3;", 3, 5);
        bounds.faulty("0:2;0:3;", 3, 4);
        bounds.faulty("59:2;59:3;", 3, 5);
        bounds.faulty("1:2;2:3;1:4;", 3, 8);
        bounds.sound("1:2;2:2;11:2;");
        WordBridges x = new WordBridges();
        bounds.due("first book", Check.book(x, 0, 1, 0, "1:2;"), 0);
        bounds.due("in another BOOK it may have one", Check.book(x, 0, 1, 0, "1:2;"), 1);
        bounds.due("a faulty one", Check.book(x, 0, 1, 0, "3:2;4:2;4:2;"), -13);
        bounds.due("what it had is no entry of the next one", Check.book(x, 0, 1, 0, "3:2;4:2;"), 2);
    }

    private static void faultFour() {
        bounds.of(0, "4 a WORD again in its SENSE (at its first).");
        bounds.faulty("1:2,2;", 4, 4);
        bounds.faulty("1:2*, 02;", 4, 6);
        bounds.faulty("1:0,0;", 4, 4);
        bounds.faulty("1:59,59;", 4, 5);
        bounds.faulty("1:1,2,3,4,5,1;", 4, 12);
        bounds.faulty("1:1|2,3|4,4;", 4, 10);
        bounds.sound("1:2|2|2;");
        bounds.sound("1:2;2:2;");
        bounds.sound("1:1;");
        bounds.sound("1:2,22;");
    }

    private static void faultFive() {
        bounds.of(0, "5 a fourth SENSE (at its '|'), a seventh WORD of a SENSE (at its first).");
        bounds.sound("1:1|2|3;");
        bounds.faulty("1:1|2|3|4;", 5, 7);
        bounds.faulty("1:1|2|3* | 4;", 5, 9);
        bounds.sound("1:1|2|3;2:1|2|3;");
        bounds.faulty("1:1;2:1|2|3|4;", 5, 11);
        bounds.sound("1:" + SIX + ";");
        bounds.faulty("1:" + SIX + ",6;", 5, 14);
        bounds.faulty("0:" + SIX + ",6;", 5, 14);
        bounds.faulty("59:" + SIX + ",6;", 5, 15);
        bounds.sound("0:1|2|3;59:1|2|3;");
        bounds.faulty("0:1|2|3|4;", 5, 7);
        bounds.faulty("59:1|2|3|4;", 5, 8);
        bounds.faulty("1:" + SIX + ", 59;", 5, 15);
        bounds.sound("1:" + SIX + "|" + SIX + "|" + SIX + ";");
        bounds.faulty("1:" + SIX + "|" + SIX + "|" + SIX + ",6;", 5, 38);
        bounds.faulty("1:1|" + SIX + ",6;", 5, 16);
    }

    // ---- promises 3 and 4

    private static void bookIsMade() {
        bounds.of(3, "THE TEXT (it is empty then) becomes a BOOK: its number; -10 less the number of its FAULT.");
        WordBridges x = new WordBridges();
        bounds.due("the first", Check.book(x, 0, 1, 0, "1:2;"), 0);
        bounds.due("the text is empty", x.count(1), 0);
        String[] faulty = {"x", "60:1;", "1:2;1:2;", "1:2,2;", "1:1|2|3|4;"};
        for (int k = 0; k < 5; k++) {
            bounds.due("fault " + (k + 1), Check.book(x, 0, 1, 0, faulty[k]), -11 - k);
            bounds.due("the text is empty", x.count(1), 0);
            bounds.due("no BOOK more", x.count(0), 1);
            bounds.due("nor one with its number", x.about(1, 0), WordBridges.UNKNOWN);
        }
        bounds.due("the second", Check.book(x, 0, 1, 0, "1:3;"), 1);
        for (int k = 2; k < 8; k++) bounds.due("of no text", x.book(0, 1, 0), k);
    }

    private static void nothingOfEarlierTexts() {
        bounds.of(3, "THE TEXT (it is empty then) becomes a BOOK: its number; -10 less the number of its FAULT.");
        String[] faulty = {"0:(1)1*,2|(2)3,4|5;1:(3)6|7*;59:(1)8*|9;x", "0:1,2|3,4|5,6|7;", "1:1;59:1,2|3*|4;0:1|2,2;"};
        for (String text : faulty) {
            WordBridges x = new WordBridges();
            Check.book(x, 0, 1, 0, text);
            bounds.due("a sound one behind '" + text + "'", Check.book(x, 0, 1, 0, "0:10;59:11,12;"), 0);
            int[] about = {0, 1, 0, 2, 2, 3, 0};
            int[] first = {0, 1, -1, -1, -1, 1, -1, -1};
            int[] last = {0, 1, -1, -1, -1, 2, -1, -1};
            for (int what = 0; what < 7; what++) bounds.due("about, " + what, x.about(0, what), about[what]);
            for (int what = 0; what < 8; what++) {
                bounds.due("entry of word 0, " + what, x.entry(0, 0, 1, what), first[what]);
                bounds.due("entry of word 1, " + what, x.entry(0, 1, 1, what), -1);
                bounds.due("entry of word 59, " + what, x.entry(0, 59, 1, what), last[what]);
            }
            bounds.due("gives of word 0", x.gives(0, 0, 1), Check.set(10));
            bounds.due("gives of word 1", x.gives(0, 1, 1), 0);
            bounds.due("gives of word 59", x.gives(0, 59, 1), Check.set(11, 12));
        }
        WordBridges y = new WordBridges();
        bounds.due("a longer text", Check.book(y, 0, 1, 0, "1:111111;"), -12);
        bounds.due("a shorter one, of its first bytes", Check.book(y, 0, 1, 0, "1:11"), -11);
        bounds.due("its end", y.fault(), 4);
        bounds.due("a longer text", Check.book(y, 0, 1, 0, "1:22;"), 0);
        bounds.due("a shorter one, that the longer one would end", Check.book(y, 0, 1, 0, "1:22"), -11);
        bounds.due("its end", y.fault(), 4);
    }

    private static void bookRefusals() {
        bounds.of(3, "UNKNOWN, OUTSIDE (one TONGUE twice; DAY), FULL (THE TEXT stays, of these).");
        for (State state : State.values()) {
            bounds.refused("book(-1, 1, 0)", state, x -> x.book(-1, 1, 0), WordBridges.UNKNOWN);
            bounds.refused("book(4, 1, 0)", state, x -> x.book(4, 1, 0), WordBridges.UNKNOWN);
            bounds.refused("book(0, -1, 0)", state, x -> x.book(0, -1, 0), WordBridges.UNKNOWN);
            bounds.refused("book(0, 4, 0)", state, x -> x.book(0, 4, 0), WordBridges.UNKNOWN);
            bounds.refused("book(4, 4, 0)", state, x -> x.book(4, 4, 0), WordBridges.UNKNOWN);
            bounds.refused("book(4, 0, 1000)", state, x -> x.book(4, 0, 1000), WordBridges.UNKNOWN);
            bounds.refused("book(3, 3, 0)", state, x -> x.book(3, 3, 0), WordBridges.OUTSIDE);
            bounds.refused("book(0, 1, -1)", state, x -> x.book(0, 1, -1), WordBridges.OUTSIDE);
            bounds.refused("book(0, 1, 1000)", state, x -> x.book(0, 1, 1000), WordBridges.OUTSIDE);
        }
        WordBridges x = new WordBridges();
        bounds.due("book(0, 3, 0)", x.book(0, 3, 0), 0);
        bounds.due("book(3, 0, 999)", x.book(3, 0, 999), 1);
    }

    private static void bookFull() {
        bounds.of(3, "UNKNOWN, OUTSIDE (one TONGUE twice; DAY), FULL (THE TEXT stays, of these).");
        bounds.refused("the ninth book", State.FULL, x -> x.book(0, 1, 0), WordBridges.FULL);
        WordBridges x = new WordBridges();
        for (int k = 0; k < 7; k++) x.book(0, 1, 0);
        bounds.due("a faulty eighth one", Check.book(x, 0, 1, 0, "60:1;"), -12);
        bounds.due("the eighth one", Check.book(x, 0, 1, 0, "1:1;"), 7);
        Check.feed(x, "1:x;");
        bounds.due("the ninth, of a faulty text", x.book(0, 1, 0), WordBridges.FULL);
        bounds.due("the text stays", x.count(1), 4);
        bounds.due("it has told no fault", x.fault(), -1);
        bounds.due("UNKNOWN ahead of FULL", x.book(0, 4, 0), WordBridges.UNKNOWN);
        bounds.due("OUTSIDE ahead of FULL", x.book(0, 0, 0), WordBridges.OUTSIDE);
        bounds.due("OUTSIDE ahead of FULL", x.book(0, 1, 1000), WordBridges.OUTSIDE);
    }

    private static void faultOfTheLatest() {
        bounds.of(4, "The byte of the FAULT of the latest book() that was not refused otherwise; NONE.");
        WordBridges x = new WordBridges();
        bounds.due("of no book()", x.fault(), -1);
        bounds.due("UNKNOWN", x.book(4, 0, 0), WordBridges.UNKNOWN);
        bounds.due("of a refused one alone", x.fault(), -1);
        Check.book(x, 0, 1, 0, "x");
        bounds.due("at the first byte", x.fault(), 0);
        Check.book(x, 0, 1, 0, blanks(239) + "1");
        bounds.due("at the end of the longest", x.fault(), 240);
        bounds.due("fault() again", x.fault(), 240);
        Check.feed(x, "1:2;");
        bounds.due("fault() behind feed()", x.fault(), 240);
        x.book(0, 0, 0);
        bounds.due("behind OUTSIDE", x.fault(), 240);
        x.book(0, 9, 0);
        bounds.due("behind UNKNOWN", x.fault(), 240);
        x.book(0, 1, 0);
        bounds.due("behind a sound one", x.fault(), -1);
        for (int k = 1; k < 7; k++) x.book(0, 1, 0);
        Check.book(x, 0, 1, 0, "1:2;y");
        bounds.due("of the latest", x.fault(), 4);
        x.book(0, 1, 0);
        bounds.due("of the eighth one", x.fault(), -1);
        Check.feed(x, "y");
        bounds.due("FULL", x.book(0, 1, 0), WordBridges.FULL);
        bounds.due("behind FULL", x.fault(), -1);
        WordBridges y = new WordBridges();
        for (int k = 0; k < 8; k++) y.book(0, 1, 0);
        bounds.due("eight books without a fault", y.fault(), -1);
    }
}
