/** The boundary cases of promises 22 to 25 and of part 4 of 'Terms'. */
public final class SentencesBoundsTest {
    private static final Bounds bounds = new Bounds("SentencesBoundsTest");
    private static final int[] NO_TONGUES = {-1, 4, Integer.MIN_VALUE, Integer.MAX_VALUE};
    private static final int[] NO_WORDS = {-1, 60, Integer.MIN_VALUE, Integer.MAX_VALUE};
    private static final int[] NO_WHATS = {-1, 2, Integer.MIN_VALUE, Integer.MAX_VALUE};

    public static void main(String[] args) {
        sentenceTerm();
        pairsTerm();
        pairsTold();
        pairRefusals();
        pairFull();
        sayOneToTen();
        sayUnknown();
        sayNot();
        sayFull();
        clear();
        strengthsSideBySide();
        toldTwice();
        fieldsToldAlike();
        staysAsItIs();
        sumsOfParts();
        firstAndLastWords();
        anotherSentence();
        sumsNoneToMost();
        firstOfLikeOnes();
        putOfWords();
        putOfNoWords();
        putUnknown();
        putOutside();
        putNot();
        bounds.end();
    }

    private static void say(WordBridges x, int a, int... words) {
        for (int w : words) x.say(a, w);
    }

    /** THE SENTENCE put over to tongue 1: the sum, then a word and a sense for each of its words. */
    private static void over(String of, WordBridges x, int sum, int... wordsAndSenses) {
        bounds.due(of + ", the sum", x.put(1, -1, 0), sum);
        for (int i = 0; 2 * i < wordsAndSenses.length; i++) {
            bounds.due(of + ", word " + i, x.put(1, i, 0), wordsAndSenses[2 * i]);
            bounds.due(of + ", sense " + i, x.put(1, i, 1), wordsAndSenses[2 * i + 1]);
        }
    }

    // ---- promise 22

    private static void pairsTerm() {
        bounds.of(0, "PAIRS (40 at most) of WORDS (x, y) of a TONGUE side by side have a STRENGTH (1 .. 99).");
        for (int strength : new int[] {1, 2, 98, 99}) {
            WordBridges x = new WordBridges();
            Check.book(x, 0, 1, 0, "0:59;59:0;");
            bounds.due("pair of strength " + strength, x.pair(1, 59, 0, strength), 1);
            say(x, 0, 0, 59);
            bounds.due("it counts by " + strength, x.put(1, -1, 0), strength);
        }
        for (int strength : new int[] {0, 100, -1, Integer.MIN_VALUE, Integer.MAX_VALUE}) {
            bounds.refused("strength " + strength, State.SOME, x -> x.pair(1, 59, 0, strength), WordBridges.OUTSIDE);
        }
        WordBridges y = new WordBridges();
        for (int k = 1; k <= 40; k++) bounds.due("pair " + k, y.pair(1, k, k, k), k);
        bounds.due("pair 41", y.pair(1, 41, 41, 41), WordBridges.FULL);
        Check.book(y, 0, 1, 0, "1:1;40:40;41:41;");
        say(y, 0, 1, 1);
        bounds.due("the first of forty counts", y.put(1, -1, 0), 1);
        y.clear();
        say(y, 0, 40, 40);
        bounds.due("the fortieth counts", y.put(1, -1, 0), 40);
        y.clear();
        say(y, 0, 41, 41);
        bounds.due("the refused one does not", y.put(1, -1, 0), 0);
    }

    private static void pairsTold() {
        bounds.of(22, "A PAIR of a TONGUE: how many there are.");
        WordBridges x = new WordBridges();
        bounds.due("of tongue 0", x.pair(0, 0, 0, 1), 1);
        bounds.due("of tongue 3", x.pair(3, 59, 59, 99), 2);
        bounds.due("told twice, counted twice", x.pair(3, 59, 59, 99), 3);
        bounds.due("the other order", x.pair(3, 59, 0, 1), 4);
        bounds.due("count(3)", x.count(3), 4);
    }

    private static void pairRefusals() {
        bounds.of(22, "UNKNOWN, OUTSIDE, FULL.");
        for (State state : State.values()) {
            for (int n : NO_TONGUES) {
                bounds.refused("a = " + n, state, x -> x.pair(n, 0, 0, 1), WordBridges.UNKNOWN);
                bounds.refused("a = " + n + ", strength 0", state, x -> x.pair(n, 0, 0, 0), WordBridges.UNKNOWN);
            }
            for (int n : NO_WORDS) {
                bounds.refused("x = " + n, state, x -> x.pair(0, n, 0, 1), WordBridges.UNKNOWN);
                bounds.refused("y = " + n, state, x -> x.pair(0, 0, n, 1), WordBridges.UNKNOWN);
                bounds.refused("y = " + n + ", strength 100", state, x -> x.pair(0, 0, n, 100), WordBridges.UNKNOWN);
            }
            bounds.refused("strength 0", state, x -> x.pair(0, 0, 0, 0), WordBridges.OUTSIDE);
            bounds.refused("strength 100", state, x -> x.pair(0, 0, 0, 100), WordBridges.OUTSIDE);
        }
    }

    private static void pairFull() {
        bounds.of(22, "UNKNOWN, OUTSIDE, FULL.");
        bounds.refused("the forty-first", State.FULL, x -> x.pair(1, 2, 5, 99), WordBridges.FULL);
        bounds.refused("one told before", State.FULL, x -> x.pair(1, 1, 4, 99), WordBridges.FULL);
        bounds.refused("OUTSIDE ahead of FULL", State.FULL, x -> x.pair(1, 1, 4, 100), WordBridges.OUTSIDE);
        bounds.refused("UNKNOWN ahead of FULL", State.FULL, x -> x.pair(1, 60, 4, 99), WordBridges.UNKNOWN);
    }

    // ---- promises 23 and 24

    private static void sentenceTerm() {
        bounds.of(0, "THE SENTENCE is a row of up to 10 WORDS of a TONGUE.");
        WordBridges x = new WordBridges();
        bounds.due("no words", x.count(4), 0);
        Check.book(x, 0, 1, 0, "0:0;1:1;2:2;3:3;4:4;5:5;6:6;7:7;8:8;9:9;");
        for (int k = 0; k < 10; k++) bounds.due("word " + k, x.say(0, 9 - k), k + 1);
        bounds.due("word 10", x.say(0, 9), WordBridges.FULL);
        for (int k = 0; k < 10; k++) bounds.due("in their row, " + k, x.put(1, k, 0), 9 - k);
        bounds.due("none behind the tenth", x.put(1, 10, 0), -1);
    }

    private static void sayOneToTen() {
        bounds.of(23, "A WORD more of THE SENTENCE (of the TONGUE of its first one): how many it has.");
        for (int a = 0; a < 4; a++) {
            WordBridges x = new WordBridges();
            bounds.due("the first, of " + a, x.say(a, 0), 1);
            for (int k = 2; k <= 10; k++) bounds.due("word " + k + " of " + a, x.say(a, 59), k);
            x.clear();
            bounds.due("another tongue when it is empty", x.say(3 - a, 0), 1);
        }
    }

    private static void sayUnknown() {
        bounds.of(23, "UNKNOWN, NOT: it is of another TONGUE; FULL.");
        for (State state : State.values()) {
            for (int n : NO_TONGUES) bounds.refused("a = " + n, state, x -> x.say(n, 0), WordBridges.UNKNOWN);
            for (int n : NO_WORDS) {
                bounds.refused("w = " + n, state, x -> x.say(0, n), WordBridges.UNKNOWN);
                bounds.refused("of another tongue, w = " + n, state, x -> x.say(1, n), WordBridges.UNKNOWN);
            }
        }
    }

    private static void sayNot() {
        bounds.of(23, "UNKNOWN, NOT: it is of another TONGUE; FULL.");
        for (int a = 1; a < 4; a++) {
            int other = a;
            bounds.refused("say(" + a + ", 0)", State.SOME, x -> x.say(other, 0), WordBridges.NOT);
            bounds.refused("NOT ahead of FULL, " + a, State.FULL, x -> x.say(other, 0), WordBridges.NOT);
            WordBridges x = new WordBridges();
            bounds.due("the first word", x.say(a, 0), 1);
            bounds.due("behind one word", x.say(0, 0), WordBridges.NOT);
            bounds.due("of its own", x.say(a, 0), 2);
        }
    }

    private static void sayFull() {
        bounds.of(23, "UNKNOWN, NOT: it is of another TONGUE; FULL.");
        bounds.refused("the eleventh", State.FULL, x -> x.say(0, 0), WordBridges.FULL);
        WordBridges x = State.FULL.make();
        x.clear();
        bounds.due("when it is empty again", x.say(0, 0), 1);
    }

    private static void clear() {
        bounds.of(24, "THE SENTENCE is empty: how many WORDS it had.");
        WordBridges x = new WordBridges();
        bounds.due("of none", x.clear(), 0);
        bounds.due("of none again", x.clear(), 0);
        x.say(2, 5);
        bounds.due("of one", x.clear(), 1);
        bounds.due("it is empty", x.count(4), 0);
        for (int k = 0; k < 10; k++) x.say(1, k);
        bounds.due("of ten", x.clear(), 10);
        bounds.due("then of none", x.clear(), 0);
        bounds.due("nothing to put over", x.put(0, -1, 0), WordBridges.NOT);
        WordBridges full = State.FULL.make();
        full.clear();
        int[] rest = {8, 240, 30, 40, 0};
        for (int what = 0; what < 5; what++) bounds.due("count(" + what + ") behind it", full.count(what), rest[what]);
    }

    // ---- promise 25

    private static void strengthsSideBySide() {
        bounds.of(0, "PUT OVER to b: for each WORD a SENSE and a WORD of it are chosen (a WORD without any, by THE TASTE, stays as it is: "
            + "NONE): the most of the sum of STRENGTHS of chosen WORDS side by side (told pairs of b, in this order; of one pair told "
            + "twice the last), and 10 for each two side by side whose SENSES have one FIELD (told).");
        WordBridges x = new WordBridges();
        Check.book(x, 0, 1, 0, "1:1,2|3;2:4,5|6;");
        say(x, 0, 1, 2);
        over("without pairs", x, 0, 1, 0, 4, 0);
        x.pair(1, 6, 3, 99);
        over("the other order", x, 0, 1, 0, 4, 0);
        x.pair(0, 3, 6, 99);
        x.pair(2, 3, 6, 99);
        over("pairs of other tongues", x, 0, 1, 0, 4, 0);
        x.pair(1, 3, 6, 1);
        over("the least strength", x, 1, 3, 1, 6, 1);
        x.pair(1, 2, 5, 2);
        over("one more", x, 2, 2, 0, 5, 0);
        x.clear();
        say(x, 0, 1);
        over("one word alone", x, 0, 1, 0);
        say(x, 0, 50, 2);
        over("not side by side", x, 0, 1, 0, -1, -1, 4, 0);
    }

    private static void toldTwice() {
        bounds.of(0, "PUT OVER to b: for each WORD a SENSE and a WORD of it are chosen (a WORD without any, by THE TASTE, stays as it is: "
            + "NONE): the most of the sum of STRENGTHS of chosen WORDS side by side (told pairs of b, in this order; of one pair told "
            + "twice the last), and 10 for each two side by side whose SENSES have one FIELD (told).");
        WordBridges x = new WordBridges();
        Check.book(x, 0, 1, 0, "1:1;2:2;");
        say(x, 0, 1, 2);
        x.pair(1, 1, 2, 99);
        x.pair(1, 1, 2, 1);
        over("the less one last", x, 1, 1, 0, 2, 0);
        x.pair(1, 1, 2, 50);
        over("the greater one last", x, 50, 1, 0, 2, 0);
        x.pair(1, 2, 1, 7);
        x.pair(2, 1, 2, 8);
        over("other pairs behind it", x, 50, 1, 0, 2, 0);
        for (int k = x.count(3); k < 40; k++) x.pair(1, 1, 2, 51 + k);
        over("the fortieth", x, 90, 1, 0, 2, 0);
    }

    private static void fieldsToldAlike() {
        bounds.of(0, "PUT OVER to b: for each WORD a SENSE and a WORD of it are chosen (a WORD without any, by THE TASTE, stays as it is: "
            + "NONE): the most of the sum of STRENGTHS of chosen WORDS side by side (told pairs of b, in this order; of one pair told "
            + "twice the last), and 10 for each two side by side whose SENSES have one FIELD (told).");
        String[] fields = {"", "(0)", "(5)"};
        for (int i = 0; i < 3; i++) {
            for (int j = 0; j < 3; j++) {
                WordBridges x = new WordBridges();
                Check.book(x, 0, 1, 0, "1:" + fields[i] + "1;2:" + fields[j] + "2;");
                say(x, 0, 1, 2);
                bounds.due("'" + fields[i] + "' and '" + fields[j] + "'", x.put(1, -1, 0), i == j && i > 0 ? 10 : 0);
            }
        }
        WordBridges y = new WordBridges();
        Check.book(y, 0, 1, 0, "1:1|(4)2;2:3|(4)4;");
        say(y, 0, 1, 2);
        over("ten for a field", y, 10, 2, 1, 4, 1);
        y.pair(1, 1, 3, 9);
        over("nine are less", y, 10, 2, 1, 4, 1);
        y.pair(1, 1, 3, 10);
        over("ten are as many, and the first", y, 10, 1, 0, 3, 0);
        y.pair(1, 2, 4, 1);
        over("both together", y, 11, 2, 1, 4, 1);
    }

    private static void staysAsItIs() {
        bounds.of(0, "PUT OVER to b: for each WORD a SENSE and a WORD of it are chosen (a WORD without any, by THE TASTE, stays as it is: "
            + "NONE): the most of the sum of STRENGTHS of chosen WORDS side by side (told pairs of b, in this order; of one pair told "
            + "twice the last), and 10 for each two side by side whose SENSES have one FIELD (told).");
        WordBridges x = new WordBridges();
        Check.book(x, 0, 1, 5, "1:(1)1;2:(1)2*;3:(1)4*|(2)3;");
        x.pair(1, 1, 2, 20);
        x.pair(1, 2, 1, 30);
        // word 2 of tongue 1 is chosen for word 2 of tongue 0: as it is, it is none of tongue 1
        say(x, 0, 1, 2, 1);
        over("aged ones count", x, 70, 1, 0, 2, 0, 1, 0);
        x.taste(false);
        over("a word of nothing but an aged one", x, 0, 1, 0, -1, -1, 1, 0);
        x.clear();
        say(x, 0, 2);
        over("nothing but one that stays", x, 0, -1, -1);
        say(x, 0, 3, 9);
        over("in its second sense", x, 0, -1, -1, 3, 1, -1, -1);
        x.now(4);
        over("the day before", x, 0, -1, -1, -1, -1, -1, -1);
    }

    private static void sumsOfParts() {
        bounds.of(0, "PUT OVER to b: for each WORD a SENSE and a WORD of it are chosen (a WORD without any, by THE TASTE, stays as it is: "
            + "NONE): the most of the sum of STRENGTHS of chosen WORDS side by side (told pairs of b, in this order; of one pair told "
            + "twice the last), and 10 for each two side by side whose SENSES have one FIELD (told).");
        WordBridges x = new WordBridges();
        Check.book(x, 0, 1, 0, "1:1,2;2:3,4;");
        x.pair(1, 2, 4, 30);
        say(x, 0, 50, 1, 2);
        over("behind one that stays", x, 30, -1, -1, 2, 0, 4, 0);
        say(x, 0, 50);
        over("ahead of one that stays", x, 30, -1, -1, 2, 0, 4, 0, -1, -1);
        say(x, 0, 50, 1, 2, 50);
        over("two parts", x, 60, -1, -1, 2, 0, 4, 0, -1, -1, -1, -1, 2, 0, 4, 0, -1, -1);
        x.clear();
        say(x, 0, 2, 50, 1, 2, 50, 50, 50, 1, 2, 1);
        over("four parts", x, 60, 3, 0, -1, -1, 2, 0, 4, 0, -1, -1, -1, -1, -1, -1, 2, 0, 4, 0, 1, 0);
    }

    private static void firstAndLastWords() {
        bounds.of(0, "PUT OVER to b: for each WORD a SENSE and a WORD of it are chosen (a WORD without any, by THE TASTE, stays as it is: "
            + "NONE): the most of the sum of STRENGTHS of chosen WORDS side by side (told pairs of b, in this order; of one pair told "
            + "twice the last), and 10 for each two side by side whose SENSES have one FIELD (told).");
        for (int y : new int[] {0, 1, 58, 59}) {
            WordBridges x = new WordBridges();
            Check.book(x, 0, 1, 0, "1:20|(1)21;2:(1)" + y + ";");
            say(x, 0, 1, 2);
            x.pair(1, 20, y, 50);
            over("a pair of 20 is none of 21, " + y, x, 50, 20, 0, y, 0);
            x.pair(1, 21, y, 41);
            over("a pair of each, " + y, x, 51, 21, 1, y, 0);
        }
    }

    private static void anotherSentence() {
        bounds.of(0, "PUT OVER to b: for each WORD a SENSE and a WORD of it are chosen (a WORD without any, by THE TASTE, stays as it is: "
            + "NONE): the most of the sum of STRENGTHS of chosen WORDS side by side (told pairs of b, in this order; of one pair told "
            + "twice the last), and 10 for each two side by side whose SENSES have one FIELD (told).");
        WordBridges x = new WordBridges();
        Check.book(x, 0, 1, 0, "1:1,2;2:3,4;");
        x.pair(1, 2, 4, 30);
        say(x, 0, 1, 2, 1, 2);
        over("a longer one", x, 60, 2, 0, 4, 0, 2, 0, 4, 0);
        x.clear();
        say(x, 0, 1);
        over("nothing of it in a shorter one", x, 0, 1, 0, -1, -1, -1, -1);
        x.clear();
        say(x, 0, 1, 50, 50, 50);
        over("one of words that stay", x, 0, 1, 0, -1, -1, -1, -1, -1, -1);
        x.clear();
        say(x, 0, 1, 2, 2, 1);
        bounds.due("its word 1 asked for at once", x.put(1, 1, 0), 4);
        over("nothing of it in another one", x, 30, 2, 0, 4, 0, 3, 0, 1, 0);
        bounds.due("to another tongue", x.put(2, -1, 0), 0);
        bounds.due("its words there", x.put(2, 0, 0), -1);
        over("and back to the first", x, 30, 2, 0, 4, 0, 3, 0, 1, 0);
    }

    private static void sumsNoneToMost() {
        bounds.of(0, "PUT OVER to b: for each WORD a SENSE and a WORD of it are chosen (a WORD without any, by THE TASTE, stays as it is: "
            + "NONE): the most of the sum of STRENGTHS of chosen WORDS side by side (told pairs of b, in this order; of one pair told "
            + "twice the last), and 10 for each two side by side whose SENSES have one FIELD (told).");
        WordBridges x = new WordBridges();
        Check.book(x, 0, 1, 0, "0:(1)0,1,2,3,4,5|(2)6,7,8,9,10,11|(5)12,13,14,15,16,17;");
        for (int k = 0; k < 10; k++) x.say(0, 0);
        bounds.due("nine fields", x.put(1, -1, 0), 90);
        x.pair(1, 17, 17, 99);
        over("nine pairs and nine fields", x, 981, 17, 2, 17, 2, 17, 2, 17, 2, 17, 2, 17, 2, 17, 2, 17, 2, 17, 2, 17, 2);
        WordBridges y = new WordBridges();
        for (int k = 0; k < 10; k++) y.say(0, k);
        over("no books", y, 0, -1, -1, -1, -1, -1, -1, -1, -1, -1, -1, -1, -1, -1, -1, -1, -1, -1, -1, -1, -1);
    }

    private static void firstOfLikeOnes() {
        bounds.of(0, "Of like ones the first: WORD by WORD, by SENSES, then by their places in the SENSE.");
        WordBridges x = new WordBridges();
        Check.book(x, 0, 1, 0, "1:9,8,7|1,2,3|0;2:19,18|11,10;");
        say(x, 0, 1, 2);
        over("all alike", x, 0, 9, 0, 19, 0);
        x.pair(1, 7, 18, 5);
        x.pair(1, 0, 19, 5);
        over("a later place ahead of a later sense", x, 5, 7, 0, 18, 0);
        x.pair(1, 8, 10, 5);
        over("the earlier place of the first word, whatever the second", x, 5, 8, 0, 10, 1);
        x.pair(1, 8, 11, 5);
        over("then the earlier place of the second", x, 5, 8, 0, 11, 1);
        x.pair(1, 8, 18, 5);
        over("then its earlier sense", x, 5, 8, 0, 18, 0);
        // by places in the SENSE as told, AGED ones left out
        WordBridges y = new WordBridges();
        Check.book(y, 0, 1, 0, "1:5*,4,3;");
        say(y, 0, 1);
        over("the first place", y, 0, 5, 0);
        y.taste(false);
        over("the first that counts", y, 0, 4, 0);
    }

    private static void putOfWords() {
        bounds.of(25, "PUT OVER to b: i = NONE the sum, else of WORD i: what = 0 the WORD (NONE: as it is, or there is none such), 1 the SENSE (NONE).");
        WordBridges x = new WordBridges();
        Check.book(x, 0, 1, 0, "0:(0)0;59:(1)1|(2)2|(0)59;");
        say(x, 0, 0, 59, 7);
        bounds.due("the sum, what = 0", x.put(1, -1, 0), 10);
        bounds.due("the sum, what = 1", x.put(1, -1, 1), 10);
        over("words 0 and 59", x, 10, 0, 0, 59, 2, -1, -1);
        bounds.due("to a tongue without books", x.put(3, -1, 0), 0);
        bounds.due("as it is", x.put(3, 0, 0), -1);
    }

    private static void putOfNoWords() {
        bounds.of(25, "PUT OVER to b: i = NONE the sum, else of WORD i: what = 0 the WORD (NONE: as it is, or there is none such), 1 the SENSE (NONE).");
        for (State state : new State[] {State.SOME, State.FULL}) {
            int[] none = {state.said(), state.said() + 1, 10, 11, -2, -3, Integer.MIN_VALUE, Integer.MAX_VALUE};
            for (int i : none) {
                bounds.due("word " + i + " in " + state, state.make().put(1, i, 0), -1);
                bounds.due("sense " + i + " in " + state, state.make().put(1, i, 1), -1);
            }
            int last = state.said() - 1;
            WordBridges x = state.make();
            bounds.due("the last one in " + state, x.put(1, last, 0) >= 0 ? 1 : 0, 1);
        }
        WordBridges y = State.FULL.make();
        bounds.due("word 9 of ten", y.put(1, 9, 0) >= 0 ? 1 : 0, 1);
        y.clear();
        y.say(0, 0);
        bounds.due("word 1 of one", y.put(1, 1, 0), -1);
        bounds.due("word 9 of one", y.put(1, 9, 1), -1);
    }

    private static void putUnknown() {
        bounds.of(25, "UNKNOWN, OUTSIDE (what), NOT: THE SENTENCE is empty, or of b.");
        for (State state : State.values()) {
            for (int n : NO_TONGUES) {
                bounds.refused("b = " + n, state, x -> x.put(n, -1, 0), WordBridges.UNKNOWN);
                bounds.refused("b = " + n + ", what = 2", state, x -> x.put(n, 0, 2), WordBridges.UNKNOWN);
                bounds.refused("b = " + n + ", no such word", state, x -> x.put(n, 99, 0), WordBridges.UNKNOWN);
            }
        }
    }

    private static void putOutside() {
        bounds.of(25, "UNKNOWN, OUTSIDE (what), NOT: THE SENTENCE is empty, or of b.");
        for (State state : State.values()) {
            for (int what : NO_WHATS) {
                bounds.refused("what = " + what, state, x -> x.put(1, 0, what), WordBridges.OUTSIDE);
                bounds.refused("i = NONE, what = " + what, state, x -> x.put(1, -1, what), WordBridges.OUTSIDE);
                bounds.refused("no such word, what = " + what, state, x -> x.put(1, 99, what), WordBridges.OUTSIDE);
                bounds.refused("of b, what = " + what, state, x -> x.put(0, 0, what), WordBridges.OUTSIDE);
            }
        }
    }

    private static void putNot() {
        bounds.of(25, "UNKNOWN, OUTSIDE (what), NOT: THE SENTENCE is empty, or of b.");
        for (int b = 0; b < 4; b++) {
            int to = b;
            for (int i : new int[] {-1, 0, 99}) {
                bounds.refused("of no words, to " + b, State.EMPTY, x -> x.put(to, i, 0), WordBridges.NOT);
                bounds.refused("of no words, to " + b, State.EMPTY, x -> x.put(to, i, 1), WordBridges.NOT);
            }
            WordBridges x = new WordBridges();
            x.say(b, 0);
            bounds.due("of " + b + " to itself", x.put(b, -1, 0), WordBridges.NOT);
            bounds.due("of " + b + " to another one", x.put(3 - b, -1, 0), 0);
            x.clear();
            bounds.due("cleared, to another one", x.put(3 - b, -1, 0), WordBridges.NOT);
        }
        for (int i : new int[] {-1, 0, 99}) {
            bounds.refused("of 0 to 0", State.SOME, x -> x.put(0, i, 0), WordBridges.NOT);
            bounds.refused("of 0 to 0", State.FULL, x -> x.put(0, i, 1), WordBridges.NOT);
        }
    }
}
