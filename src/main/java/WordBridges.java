/**
 * Word bridges: word books from tongue to tongue, told in texts, and what follows from them.
 *
 * <p>The words in capitals are those of the document. Every method of the classes inside answers for
 * any numbers whatever, so that no index is ever used that was not looked at.
 */
public final class WordBridges {
    public static final int NONE = -1, UNKNOWN = -1001, OUTSIDE = -1002, NOT = -1003, FULL = -1004;

    private static final int TONGUES = 4;
    private static final int WORDS = 60;
    private static final int BOOKS = 8;
    private static final int LAST_DAY = 999;
    private static final int SENSES = 3;
    private static final int FIELDS = 6;
    private static final int PLACES = 6;
    private static final int TEXT_BYTES = 240;
    private static final int LOOKS = 30;
    private static final int PAIRS = 40;
    private static final int STRONGEST = 99;
    private static final int SENTENCE_WORDS = 10;
    private static final int SAME_FIELD = 10;
    private static final int OPEN = 0, TRUE = 1, FALSE = 2;
    private static final long EVERY_WORD = (1L << WORDS) - 1;

    private final Text text;
    private final Reader reader;
    private final Shelf shelf;
    private final Through through;
    private final Looks looks;
    private final Pairs pairs;
    private final Sentence sentence;
    private final Over over;
    private final Route route;
    private final Cover cover;
    private int faultByte;

    public WordBridges() {
        text = new Text();
        reader = new Reader();
        shelf = new Shelf();
        through = new Through();
        looks = new Looks();
        pairs = new Pairs();
        sentence = new Sentence();
        over = new Over();
        route = new Route();
        cover = new Cover();
        faultByte = NONE;
    }

    // ---- books

    public int feed(int n, long bytes) {
        if (n < 1 || n > 8) return OUTSIDE;
        if (!text.hasRoom(n)) return FULL;
        for (int k = n - 1; k >= 0; k--) text.push((int) (bytes >>> 8 * k) & 255);
        return text.length;
    }

    public int book(int a, int b, int day) {
        if (!isTongue(a) || !isTongue(b)) return UNKNOWN;
        if (a == b || !isDay(day)) return OUTSIDE;
        if (shelf.size >= BOOKS) return FULL;
        Book draft = shelf.newDraft(a, b, day);
        int fault = reader.read(text, draft);
        text.length = 0;
        faultByte = fault == 0 ? NONE : reader.faultAt;
        return fault == 0 ? shelf.keepDraft() : -10 - fault;
    }

    public int fault() {
        return faultByte;
    }

    public int about(int book, int what) {
        Book told = shelf.bookAt(book);
        if (told == null) return UNKNOWN;
        switch (what) {
            case 0: return told.from;
            case 1: return told.to;
            case 2: return told.day;
            case 3: return Long.bitCount(told.heads);
            case 4: return told.senseTotal;
            case 5: return told.wordTotal;
            case 6: return told.agedTotal;
            default: return OUTSIDE;
        }
    }

    public int now(int day) {
        if (!isDay(day)) return OUTSIDE;
        int before = shelf.today;
        shelf.today = day;
        return before;
    }

    public int taste(boolean aged) {
        int before = shelf.agedCount ? 1 : 0;
        shelf.agedCount = aged;
        return before;
    }

    public int count(int what) {
        switch (what) {
            case 0: return shelf.size;
            case 1: return text.length;
            case 2: return looks.size;
            case 3: return pairs.size;
            case 4: return sentence.size;
            default: return OUTSIDE;
        }
    }

    // ---- entries

    public int entry(int a, int w, int b, int what) {
        if (!isTongue(a) || !isWord(w) || !isTongue(b)) return UNKNOWN;
        if (what < 0 || what >= 2 + 2 * SENSES) return OUTSIDE;
        int number = shelf.latest(a, w, b);
        Book told = shelf.bookAt(number);
        if (told == null) return NONE;
        if (what == 0) return number;
        if (what == 1) return told.sensesOf(w);
        if (what < 2 + SENSES) return told.fieldOf(w, what - 2);
        int sense = what - 2 - SENSES;
        return sense < told.sensesOf(w) ? Long.bitCount(told.senseSet(w, sense, shelf.agedCount)) : NONE;
    }

    public long gives(int a, int w, int b) {
        if (!isTongue(a) || !isWord(w) || !isTongue(b)) return UNKNOWN;
        return shelf.given(a, w, b);
    }

    public long givenBy(int a, int b, int t) {
        if (!isTongue(a) || !isTongue(b) || !isWord(t)) return UNKNOWN;
        return shelf.givers(a, EVERY_WORD, b, only(t));
    }

    public int returns(int a, int w, int b) {
        if (!isTongue(a) || !isWord(w) || !isTongue(b)) return UNKNOWN;
        if (a == b) return OUTSIDE;
        return has(thereAndBack(a, w, b), w) ? 1 : 0;
    }

    public long back(int a, int w, int b) {
        if (!isTongue(a) || !isWord(w) || !isTongue(b)) return UNKNOWN;
        if (a == b) return OUTSIDE;
        return thereAndBack(a, w, b) & ~only(w);
    }

    public int meanings(int a, int w, int b) {
        if (!isTongue(a) || !isWord(w) || !isTongue(b)) return UNKNOWN;
        if (a == b) return OUTSIDE;
        long rest = shelf.given(a, w, b);
        int groups = 0;
        for (int t = 0; t < WORDS; t++) {
            if (has(rest, t)) {
                rest &= ~groupOf(a, w, b, t);
                groups++;
            }
        }
        return groups;
    }

    public int lopsided(int a, int b) {
        if (!isTongue(a) || !isTongue(b)) return UNKNOWN;
        if (a == b) return OUTSIDE;
        int found = 0;
        for (int w = 0; w < WORDS; w++) found += lopsidedOf(a, w, b);
        return found;
    }

    /** How many words that w gives have an ENTRY that does not lead back to w. */
    private int lopsidedOf(int a, int w, int b) {
        long given = shelf.given(a, w, b);
        int found = 0;
        for (int t = 0; t < WORDS && given != 0; t++) {
            boolean answers = has(given, t) && shelf.latest(b, t, a) != NONE;
            if (answers && !has(shelf.given(b, t, a), w)) found++;
        }
        return found;
    }

    /** The words of a that come back from those that w gives, w itself too if it does. */
    private long thereAndBack(int a, int w, int b) {
        return shelf.givenByAll(b, shelf.given(a, w, b), a);
    }

    /** All words that w gives which are of one GROUP with t, t too. */
    private long groupOf(int a, int w, int b, int t) {
        long given = shelf.given(a, w, b);
        long group = only(t);
        boolean grown = true;
        for (int round = 0; round < WORDS && grown; round++) {
            long wider = group | shelf.sharingSense(a, w, b, group);
            long common = shelf.givenByAll(b, group, a) & ~only(w);
            wider |= shelf.givers(b, given & ~wider, a, common);
            grown = wider != group;
            group = wider;
        }
        return group;
    }

    // ---- through

    public int weight(int a, int w, int m, int c, int t) {
        if (!isTongue(a) || !isWord(w) || !isTongue(m) || !isTongue(c) || !isWord(t)) return UNKNOWN;
        if (!differ(a, m, c)) return OUTSIDE;
        return through.ways(shelf, a, w, m, c, t);
    }

    public int sure(int a, int w, int m, int c, int t, int what) {
        if (!isTongue(a) || !isWord(w) || !isTongue(m) || !isTongue(c) || !isWord(t)) return UNKNOWN;
        if (!differ(a, m, c) || what < 0 || what > 1) return OUTSIDE;
        through.measure(shelf, a, w, m, c, t);
        int divisor = commonDivisor(through.upper, through.lower);
        int told = what == 0 ? through.upper : through.lower;
        return divisor > 1 ? told / divisor : told;
    }

    public int best(int a, int w, int m, int c) {
        if (!isTongue(a) || !isWord(w) || !isTongue(m) || !isTongue(c)) return UNKNOWN;
        if (!differ(a, m, c)) return OUTSIDE;
        through.begin();
        through.seek(shelf, a, w, m, c);
        return through.bestWord;
    }

    public int bridge(int a, int w, int c) {
        if (!isTongue(a) || !isWord(w) || !isTongue(c)) return UNKNOWN;
        if (a == c) return OUTSIDE;
        through.begin();
        for (int m = 0; m < TONGUES; m++) {
            if (differ(a, m, c)) through.seek(shelf, a, w, m, c);
        }
        return through.bestTongue;
    }

    public int alike(int a, int w, int b, int v) {
        if (!isTongue(a) || !isWord(w) || !isTongue(b) || !isWord(v)) return UNKNOWN;
        if (a == b) return OUTSIDE;
        if (looks.holds(a, w, b, v)) return NOT;
        if (looks.size >= LOOKS) return FULL;
        return looks.add(a, w, b, v);
    }

    public int friends(int i) {
        if (i < NONE || i >= looks.size) return OUTSIDE;
        if (i != NONE) return looks.judge(i, shelf);
        int falseOnes = 0;
        for (int k = 0; k < looks.size; k++) {
            if (looks.judge(k, shelf) == FALSE) falseOnes++;
        }
        return falseOnes;
    }

    // ---- sentences

    public int pair(int a, int x, int y, int strength) {
        if (!isTongue(a) || !isWord(x) || !isWord(y)) return UNKNOWN;
        if (strength < 1 || strength > STRONGEST) return OUTSIDE;
        if (pairs.size >= PAIRS) return FULL;
        return pairs.add(a, x, y, strength);
    }

    public int say(int a, int w) {
        if (!isTongue(a) || !isWord(w)) return UNKNOWN;
        if (sentence.size > 0 && sentence.tongue != a) return NOT;
        if (sentence.size >= SENTENCE_WORDS) return FULL;
        return sentence.add(a, w);
    }

    public int clear() {
        int before = sentence.size;
        sentence.size = 0;
        return before;
    }

    public int put(int b, int i, int what) {
        if (!isTongue(b)) return UNKNOWN;
        if (what < 0 || what > 1) return OUTSIDE;
        if (sentence.size == 0 || sentence.tongue == b) return NOT;
        over.solve(sentence, b, shelf, pairs);
        if (i == NONE) return over.most(0);
        return what == 0 ? over.chosenWord(i) : over.chosenSense(i);
    }

    // ---- across

    public int chain(int a, int b, int i) {
        if (!isTongue(a) || !isTongue(b)) return UNKNOWN;
        if (a == b) return OUTSIDE;
        route.find(shelf, a, b);
        if (i == NONE) return route.size == 0 ? NONE : route.size;
        return route.tongueAt(i);
    }

    public long across(int a, int b, int what) {
        if (!isTongue(a) || !isTongue(b)) return UNKNOWN;
        if (a == b || what < 0 || what > 1) return OUTSIDE;
        if (what == 1) return shelf.headsFrom(a) & ~shelf.headsTo(a, b);
        route.find(shelf, a, b);
        return route.comingAcross(shelf);
    }

    public int fewest(int a, int b, long set) {
        if (!isTongue(a) || !isTongue(b) || (set & ~EVERY_WORD) != 0) return UNKNOWN;
        if (a == b) return OUTSIDE;
        return cover.least(shelf, a, b, set);
    }

    // ---- bounds and sets

    private static boolean isTongue(int a) {
        return a >= 0 && a < TONGUES;
    }

    private static boolean isWord(int w) {
        return w >= 0 && w < WORDS;
    }

    private static boolean isDay(int day) {
        return day >= 0 && day <= LAST_DAY;
    }

    private static boolean differ(int a, int m, int c) {
        return a != m && m != c && a != c;
    }

    private static boolean has(long set, int w) {
        return isWord(w) && (set >>> w & 1L) != 0;
    }

    /** The SET of one word; of what is no word the empty one. */
    private static long only(int w) {
        return isWord(w) ? 1L << w : 0L;
    }

    private static int commonDivisor(int x, int y) {
        int greater = x;
        int less = y;
        for (int round = 0; round < 64 && less != 0; round++) {
            int rest = greater % less;
            greater = less;
            less = rest;
        }
        return greater;
    }

    /** THE TEXT: the bytes told so far. */
    private static final class Text {
        private final int[] bytes;
        private int length;

        private Text() {
            bytes = new int[TEXT_BYTES];
            length = 0;
        }

        private boolean hasRoom(int n) {
            return length + n <= TEXT_BYTES;
        }

        private void push(int sign) {
            if (length < 0 || length >= TEXT_BYTES) return;
            bytes[length] = sign;
            length++;
        }

        /** The byte at a place; NONE behind the end. */
        private int signAt(int place) {
            return place >= 0 && place < length && place < TEXT_BYTES ? bytes[place] : NONE;
        }

        private boolean figureAt(int place) {
            int sign = signAt(place);
            return sign >= '0' && sign <= '9';
        }
    }

    /** One BOOK. A draft is one that is still being read: what it has then may yet be thrown away. */
    private static final class Book {
        private int from;
        private int to;
        private int day;
        private long heads;
        private int senseTotal;
        private int wordTotal;
        private int agedTotal;
        private final int[] senses;
        private final int[] fields;
        private final int[] sizes;
        private final int[] words;
        private final long[] all;
        private final long[] fresh;

        private Book() {
            senses = new int[WORDS];
            fields = new int[WORDS * SENSES];
            sizes = new int[WORDS * SENSES];
            words = new int[WORDS * SENSES * PLACES];
            all = new long[WORDS * SENSES];
            fresh = new long[WORDS * SENSES];
        }

        private void restart(int a, int b, int ofDay) {
            from = a;
            to = b;
            day = ofDay;
            heads = 0L;
            senseTotal = 0;
            wordTotal = 0;
            agedTotal = 0;
            for (int w = 0; w < WORDS; w++) senses[w] = 0;
        }

        private void addEntry(int w) {
            heads |= only(w);
        }

        private void addSense(int w) {
            if (!isWord(w) || senses[w] >= SENSES) return;
            senses[w]++;
            senseTotal++;
            int at = placeOf(w, senses[w] - 1);
            if (at == NONE) return;
            fields[at] = NONE;
            sizes[at] = 0;
            all[at] = 0L;
            fresh[at] = 0L;
        }

        /** Tells the FIELD of the latest SENSE of w. */
        private void tellField(int w, int field) {
            int at = placeOf(w, sensesOf(w) - 1);
            if (at != NONE) fields[at] = field;
        }

        /** Adds a word to the latest SENSE of w. */
        private void addWord(int w, int t) {
            int at = placeOf(w, sensesOf(w) - 1);
            if (at == NONE || sizes[at] < 0 || sizes[at] >= PLACES) return;
            words[at * PLACES + sizes[at]] = t;
            sizes[at]++;
            all[at] |= only(t);
            fresh[at] |= only(t);
            wordTotal++;
        }

        /** Makes the latest word of the latest SENSE of w an AGED one. */
        private void age(int w) {
            int sense = sensesOf(w) - 1;
            int at = placeOf(w, sense);
            if (at == NONE) return;
            fresh[at] &= ~only(wordAt(w, sense, sizes[at] - 1));
            agedTotal++;
        }

        private int sensesOf(int w) {
            return isWord(w) ? senses[w] : 0;
        }

        private int fieldOf(int w, int sense) {
            int at = placeOf(w, sense);
            return at == NONE ? NONE : fields[at];
        }

        private int sizeOf(int w, int sense) {
            int at = placeOf(w, sense);
            return at == NONE ? 0 : sizes[at];
        }

        private int wordAt(int w, int sense, int place) {
            int at = placeOf(w, sense);
            if (at == NONE || place < 0 || place >= PLACES || place >= sizes[at]) return NONE;
            return words[at * PLACES + place];
        }

        /** The words of a SENSE, with the AGED ones or without them. */
        private long senseSet(int w, int sense, boolean withAged) {
            int at = placeOf(w, sense);
            if (at == NONE) return 0L;
            return withAged ? all[at] : fresh[at];
        }

        /** The words in all SENSES of w. */
        private long entrySet(int w, boolean withAged) {
            if (!isWord(w)) return 0L;
            long set = 0L;
            for (int s = 0; s < SENSES && s < senses[w]; s++) {
                int at = w * SENSES + s;
                set |= withAged ? all[at] : fresh[at];
            }
            return set;
        }

        /** Whether this book, of this number, comes ahead of another one that leads the same way. */
        private boolean supersedes(int number, Book other, int otherNumber) {
            if (other == null || other.from != from || other.to != to) return false;
            return day > other.day || day == other.day && number > otherNumber;
        }

        private int placeOf(int w, int sense) {
            return isWord(w) && sense >= 0 && sense < SENSES && sense < senses[w] ? w * SENSES + sense : NONE;
        }
    }

    /** Reads THE TEXT into a draft, byte by byte, by what may stand next. */
    private static final class Reader {
        private static final int CLAUSE = 0, COLON = 1, SENSE = 2, FIELD = 3, CLOSE = 4, WORD = 5, AFTER_WORD = 6, AFTER_STAR = 7;
        private static final int MISPLACED = 1, NO_NUMBER = 2, ENTRY_AGAIN = 3, WORD_AGAIN = 4, TOO_MANY = 5;
        private static final int FIGURES = 2;

        private int next;
        private int place;
        private int head;
        private int faultAt;

        private Reader() {
            next = CLAUSE;
            place = 0;
            head = NONE;
            faultAt = NONE;
        }

        /** The number of the text's first FAULT, whose byte is faultAt then, or 0. */
        private int read(Text text, Book draft) {
            next = CLAUSE;
            place = 0;
            head = NONE;
            int fault = 0;
            for (int round = 0; round < TEXT_BYTES && fault == 0 && place < text.length; round++) {
                faultAt = place;
                fault = text.figureAt(place) ? readNumber(text, draft) : readSign(text.signAt(place), draft);
            }
            if (fault == 0 && next != CLAUSE) {
                faultAt = text.length;
                fault = MISPLACED;
            }
            return fault;
        }

        private int readSign(int sign, Book draft) {
            place++;
            if (sign == ' ') return 0;
            boolean behindWord = next == AFTER_WORD || next == AFTER_STAR;
            if (sign == ':' && next == COLON) return openSense(draft);
            if (sign == '|' && behindWord) return openSense(draft);
            if (sign == '(' && next == SENSE) return expect(FIELD);
            if (sign == ')' && next == CLOSE) return expect(WORD);
            if (sign == ',' && behindWord) return expect(WORD);
            if (sign == ';' && behindWord) return expect(CLAUSE);
            if (sign != '*' || next != AFTER_WORD) return MISPLACED;
            draft.age(head);
            return expect(AFTER_STAR);
        }

        private int expect(int what) {
            next = what;
            return 0;
        }

        private int openSense(Book draft) {
            if (draft.sensesOf(head) >= SENSES) return TOO_MANY;
            draft.addSense(head);
            return expect(SENSE);
        }

        private int readNumber(Text text, Book draft) {
            if (next != CLAUSE && next != SENSE && next != FIELD && next != WORD) return MISPLACED;
            int value = 0;
            int figures = 0;
            for (; figures < TEXT_BYTES && text.figureAt(place); figures++) {
                if (figures < FIGURES) value = value * 10 + text.signAt(place) - '0';
                place++;
            }
            if (figures > FIGURES || value >= (next == FIELD ? FIELDS : WORDS)) return NO_NUMBER;
            if (next == CLAUSE) return takeHead(draft, value);
            if (next == FIELD) return takeField(draft, value);
            return takeWord(draft, value);
        }

        private int takeHead(Book draft, int w) {
            if (has(draft.heads, w)) return ENTRY_AGAIN;
            head = w;
            draft.addEntry(w);
            return expect(COLON);
        }

        private int takeField(Book draft, int field) {
            draft.tellField(head, field);
            return expect(CLOSE);
        }

        private int takeWord(Book draft, int t) {
            int sense = draft.sensesOf(head) - 1;
            if (has(draft.senseSet(head, sense, true), t)) return WORD_AGAIN;
            if (draft.sizeOf(head, sense) >= PLACES) return TOO_MANY;
            draft.addWord(head, t);
            return expect(AFTER_WORD);
        }
    }

    /** All BOOKS, with NOW and THE TASTE, by which they are looked at. */
    private static final class Shelf {
        private final Book[] books;
        private Book draft;
        private int size;
        private int today;
        private boolean agedCount;

        private Shelf() {
            books = new Book[BOOKS];
            draft = null;
            size = 0;
            today = LAST_DAY;
            agedCount = true;
        }

        /** The draft of before is used again if it was thrown away: a run has room for few books only. */
        private Book newDraft(int a, int b, int day) {
            if (draft == null) draft = new Book();
            draft.restart(a, b, day);
            return draft;
        }

        /** The draft becomes a BOOK: its number. */
        private int keepDraft() {
            if (draft == null || size < 0 || size >= BOOKS) return FULL;
            books[size] = draft;
            draft = null;
            size++;
            return size - 1;
        }

        /** A BOOK by its number; null if there is none. */
        private Book bookAt(int number) {
            return number >= 0 && number < size && number < BOOKS ? books[number] : null;
        }

        /** A BOOK by its number, if it is of a DAY up to NOW. */
        private Book currentAt(int number) {
            Book told = bookAt(number);
            return told != null && told.day <= today ? told : null;
        }

        /** The number of the BOOK whose ENTRY of w counts now; NONE. */
        private int latest(int a, int w, int b) {
            int found = NONE;
            for (int k = 0; k < size; k++) {
                Book told = currentAt(k);
                if (told == null || told.from != a || told.to != b || !has(told.heads, w)) continue;
                if (found == NONE || told.supersedes(k, bookAt(found), found)) found = k;
            }
            return found;
        }

        /** GIVES. */
        private long given(int a, int w, int b) {
            Book told = bookAt(latest(a, w, b));
            return told == null ? 0L : told.entrySet(w, agedCount);
        }

        /** All that the words of a set give together. */
        private long givenByAll(int a, long set, int b) {
            long all = 0L;
            for (int w = 0; w < WORDS; w++) {
                if (has(set, w)) all |= given(a, w, b);
            }
            return all;
        }

        /** Of some words of a those that give some word of a set of b's. */
        private long givers(int a, long some, int b, long set) {
            long found = 0L;
            for (int w = 0; w < WORDS && some != 0 && set != 0; w++) {
                if (has(some, w) && (given(a, w, b) & set) != 0) found |= only(w);
            }
            return found;
        }

        /** The words that stand in a SENSE of w in which some word of a set stands. */
        private long sharingSense(int a, int w, int b, long set) {
            Book told = bookAt(latest(a, w, b));
            if (told == null) return 0L;
            long found = 0L;
            for (int s = 0; s < SENSES; s++) {
                long sense = told.senseSet(w, s, agedCount);
                if ((sense & set) != 0) found |= sense;
            }
            return found;
        }

        private boolean leads(int a, int b) {
            for (int k = 0; k < size; k++) {
                Book told = currentAt(k);
                if (told != null && told.from == a && told.to == b) return true;
            }
            return false;
        }

        /** The words of a that have an ENTRY to b. */
        private long headsTo(int a, int b) {
            long found = 0L;
            for (int k = 0; k < size; k++) {
                Book told = currentAt(k);
                if (told != null && told.from == a && told.to == b) found |= told.heads;
            }
            return found;
        }

        /** The words of a that have an ENTRY to whatever TONGUE. */
        private long headsFrom(int a) {
            long found = 0L;
            for (int b = 0; b < TONGUES; b++) found |= headsTo(a, b);
            return found;
        }
    }

    /** WAYS through a third TONGUE, how sure they are, and the best that was found by them. */
    private static final class Through {
        private int upper;
        private int lower;
        private int bestUpper;
        private int bestLower;
        private int bestWays;
        private int bestWord;
        private int bestTongue;

        private Through() {
            upper = 0;
            lower = 1;
            bestUpper = 0;
            bestLower = 1;
            bestWays = 0;
            bestWord = NONE;
            bestTongue = NONE;
        }

        /** WEIGHT. */
        private int ways(Shelf shelf, int a, int w, int m, int c, int t) {
            Book told = shelf.bookAt(shelf.latest(a, w, m));
            if (told == null) return 0;
            int found = 0;
            for (int s = 0; s < SENSES; s++) {
                long sense = told.senseSet(w, s, shelf.agedCount);
                for (int k = 0; k < PLACES; k++) {
                    int x = told.wordAt(w, s, k);
                    if (has(sense, x)) found += waysOn(shelf, m, x, c, t, told.fieldOf(w, s));
                }
            }
            return found;
        }

        /** In how many SENSES of x that fit a field t stands. */
        private int waysOn(Shelf shelf, int m, int x, int c, int t, int field) {
            Book told = shelf.bookAt(shelf.latest(m, x, c));
            if (told == null) return 0;
            int found = 0;
            for (int s = 0; s < SENSES; s++) {
                int other = told.fieldOf(x, s);
                boolean fits = field == NONE || other == NONE || field == other;
                if (fits && has(told.senseSet(x, s, shelf.agedCount), t)) found++;
            }
            return found;
        }

        /** SURENESS, into upper and lower, not yet in least terms. */
        private void measure(Shelf shelf, int a, int w, int m, int c, int t) {
            long there = shelf.given(a, w, m);
            long here = shelf.given(c, t, m);
            int words = Long.bitCount(there) + Long.bitCount(here);
            upper = 2 * Long.bitCount(there & here);
            lower = Math.max(words, 1);
        }

        private void begin() {
            bestUpper = 0;
            bestLower = 1;
            bestWays = 0;
            bestWord = NONE;
            bestTongue = NONE;
        }

        /** Takes what is better by m than the best so far; of like ones the earlier stays. */
        private void seek(Shelf shelf, int a, int w, int m, int c) {
            long reached = shelf.givenByAll(m, shelf.given(a, w, m), c);
            for (int t = 0; t < WORDS; t++) {
                int ways = has(reached, t) ? ways(shelf, a, w, m, c, t) : 0;
                if (ways == 0) continue;
                measure(shelf, a, w, m, c, t);
                if (isBetter(ways)) {
                    bestUpper = upper;
                    bestLower = lower;
                    bestWays = ways;
                    bestWord = t;
                    bestTongue = m;
                }
            }
        }

        private boolean isBetter(int ways) {
            int mine = upper * bestLower;
            int theirs = bestUpper * lower;
            return bestWord == NONE || mine > theirs || mine == theirs && ways > bestWays;
        }
    }

    /** Pairs of words that LOOK ALIKE. */
    private static final class Looks {
        private final int[] tongues;
        private final int[] words;
        private final int[] otherTongues;
        private final int[] otherWords;
        private int size;

        private Looks() {
            tongues = new int[LOOKS];
            words = new int[LOOKS];
            otherTongues = new int[LOOKS];
            otherWords = new int[LOOKS];
            size = 0;
        }

        private boolean holds(int a, int w, int b, int v) {
            for (int k = 0; k < size && k < LOOKS; k++) {
                boolean first = tongues[k] == a && words[k] == w;
                boolean second = otherTongues[k] == b && otherWords[k] == v;
                boolean turnedFirst = tongues[k] == b && words[k] == v;
                boolean turnedSecond = otherTongues[k] == a && otherWords[k] == w;
                if (first && second || turnedFirst && turnedSecond) return true;
            }
            return false;
        }

        private int add(int a, int w, int b, int v) {
            if (size < 0 || size >= LOOKS) return FULL;
            tongues[size] = a;
            words[size] = w;
            otherTongues[size] = b;
            otherWords[size] = v;
            size++;
            return size;
        }

        /** OPEN, TRUE or FALSE: the greatest that one of the two sides says. */
        private int judge(int i, Shelf shelf) {
            if (i < 0 || i >= size || i >= LOOKS) return OPEN;
            int there = judgeSide(shelf, tongues[i], words[i], otherTongues[i], otherWords[i]);
            int back = judgeSide(shelf, otherTongues[i], otherWords[i], tongues[i], words[i]);
            return Math.max(there, back);
        }

        private static int judgeSide(Shelf shelf, int a, int w, int b, int v) {
            if (shelf.latest(a, w, b) == NONE) return OPEN;
            return has(shelf.given(a, w, b), v) ? TRUE : FALSE;
        }
    }

    /** PAIRS of words side by side and their STRENGTHS, as they were told. */
    private static final class Pairs {
        private final int[] tongues;
        private final int[] firsts;
        private final int[] seconds;
        private final int[] strengths;
        private int size;

        private Pairs() {
            tongues = new int[PAIRS];
            firsts = new int[PAIRS];
            seconds = new int[PAIRS];
            strengths = new int[PAIRS];
            size = 0;
        }

        private int add(int a, int x, int y, int strength) {
            if (size < 0 || size >= PAIRS) return FULL;
            tongues[size] = a;
            firsts[size] = x;
            seconds[size] = y;
            strengths[size] = strength;
            size++;
            return size;
        }

        /** Writes for every word how strongly it follows x; what is told later stands in the end. */
        private void writeFollowers(int a, int x, int[] row) {
            for (int y = 0; y < row.length; y++) row[y] = 0;
            for (int k = 0; k < size && k < PAIRS; k++) {
                int y = seconds[k];
                if (tongues[k] == a && firsts[k] == x && y >= 0 && y < row.length) row[y] = strengths[k];
            }
        }
    }

    /** THE SENTENCE. */
    private static final class Sentence {
        private final int[] words;
        private int tongue;
        private int size;

        private Sentence() {
            words = new int[SENTENCE_WORDS];
            tongue = NONE;
            size = 0;
        }

        private int add(int a, int w) {
            if (size < 0 || size >= SENTENCE_WORDS) return FULL;
            tongue = a;
            words[size] = w;
            size++;
            return size;
        }

        private int wordAt(int i) {
            return i >= 0 && i < size && i < SENTENCE_WORDS ? words[i] : NONE;
        }
    }

    /**
     * THE SENTENCE PUT OVER. Each of its words has CHOICES numbers for what may be chosen, by SENSES and
     * then by places, so that the first choice of like ones is that with the least number.
     */
    private static final class Over {
        private static final int CHOICES = SENSES * PLACES;

        private final int[] words;
        private final int[] fields;
        private final int[] sums;
        private final int[] most;
        private final int[] chosen;
        private final int[] followers;
        private int size;
        private int tongue;

        private Over() {
            words = new int[SENTENCE_WORDS * CHOICES];
            fields = new int[SENTENCE_WORDS * CHOICES];
            sums = new int[SENTENCE_WORDS * CHOICES];
            most = new int[SENTENCE_WORDS];
            chosen = new int[SENTENCE_WORDS];
            followers = new int[WORDS];
            size = 0;
            tongue = NONE;
        }

        private void solve(Sentence sentence, int b, Shelf shelf, Pairs pairs) {
            size = Math.min(sentence.size, SENTENCE_WORDS);
            tongue = b;
            for (int i = 0; i < size; i++) {
                int w = sentence.wordAt(i);
                Book told = shelf.bookAt(shelf.latest(sentence.tongue, w, b));
                for (int c = 0; c < CHOICES; c++) offer(i, c, told, w, shelf.agedCount);
            }
            for (int i = size - 1; i >= 0; i--) sumUp(i, pairs);
            for (int i = 0; i < size; i++) choose(i, pairs);
        }

        /** Writes what choice c of word i would be; NONE if there is no such. */
        private void offer(int i, int c, Book told, int w, boolean withAged) {
            int at = slot(i, c);
            if (at == NONE) return;
            words[at] = NONE;
            fields[at] = NONE;
            if (told == null) return;
            int sense = c / PLACES;
            int t = told.wordAt(w, sense, c % PLACES);
            if (!has(told.senseSet(w, sense, withAged), t)) return;
            words[at] = t;
            fields[at] = told.fieldOf(w, sense);
        }

        /** Of each choice of word i the most that it and all behind it can come to. */
        private void sumUp(int i, Pairs pairs) {
            if (i < 0 || i >= SENTENCE_WORDS) return;
            int top = NONE;
            for (int c = 0; c < CHOICES; c++) {
                int at = slot(i, c);
                if (wordIn(at) == NONE) continue;
                pairs.writeFollowers(tongue, wordIn(at), followers);
                sums[at] = mostBehind(i, at);
                top = Math.max(top, sums[at]);
            }
            most[i] = top == NONE ? most(i + 1) : top;
        }

        private int mostBehind(int i, int at) {
            int top = NONE;
            for (int d = 0; d < CHOICES; d++) {
                int to = slot(i + 1, d);
                if (wordIn(to) != NONE) top = Math.max(top, tie(at, to) + sumIn(to));
            }
            return top == NONE ? most(i + 1) : top;
        }

        /** The first choice of word i by which, behind the one chosen before it, the most is come to. */
        private void choose(int i, Pairs pairs) {
            if (i < 0 || i >= SENTENCE_WORDS) return;
            int before = i == 0 || chosen[i - 1] == NONE ? NONE : slot(i - 1, chosen[i - 1]);
            if (before != NONE) pairs.writeFollowers(tongue, wordIn(before), followers);
            int goal = before == NONE ? most[i] : sumIn(before);
            chosen[i] = NONE;
            for (int c = 0; c < CHOICES && chosen[i] == NONE; c++) {
                int at = slot(i, c);
                if (wordIn(at) != NONE && tie(before, at) + sumIn(at) == goal) chosen[i] = c;
            }
        }

        /** What two choices side by side add; followers must be written for the first one. */
        private int tie(int from, int to) {
            int second = wordIn(to);
            if (wordIn(from) == NONE || !isWord(second)) return 0;
            int field = fieldIn(from);
            return followers[second] + (field != NONE && field == fieldIn(to) ? SAME_FIELD : 0);
        }

        /** The most that word i and all behind it come to. */
        private int most(int i) {
            return i >= 0 && i < size && i < SENTENCE_WORDS ? most[i] : 0;
        }

        private int chosenWord(int i) {
            return wordIn(slot(i, choiceOf(i)));
        }

        private int chosenSense(int i) {
            int choice = choiceOf(i);
            return choice == NONE ? NONE : choice / PLACES;
        }

        private int choiceOf(int i) {
            return i >= 0 && i < size && i < SENTENCE_WORDS ? chosen[i] : NONE;
        }

        private int slot(int i, int c) {
            return i >= 0 && i < size && i < SENTENCE_WORDS && c >= 0 && c < CHOICES ? i * CHOICES + c : NONE;
        }

        private int wordIn(int at) {
            return at >= 0 && at < words.length ? words[at] : NONE;
        }

        private int fieldIn(int at) {
            return at >= 0 && at < fields.length ? fields[at] : NONE;
        }

        private int sumIn(int at) {
            return at >= 0 && at < sums.length ? sums[at] : 0;
        }
    }

    /** THE SHORTEST CHAIN, as it was found last. */
    private static final class Route {
        private final int[] tongues;
        private final int[] steps;
        private int size;

        private Route() {
            tongues = new int[TONGUES];
            steps = new int[TONGUES];
            size = 0;
        }

        /** Finds the chain from a to b: no tongue stands in it twice, as it would be longer. */
        private void find(Shelf shelf, int a, int b) {
            countSteps(shelf, b);
            size = 0;
            int here = a;
            for (int k = 0; k < TONGUES && here != NONE; k++) {
                tongues[k] = here;
                size = k + 1;
                here = nearer(shelf, here);
            }
            if (tongueAt(size - 1) != b) size = 0;
        }

        /** How many steps each tongue is from b; NONE where no books lead there. */
        private void countSteps(Shelf shelf, int b) {
            for (int x = 0; x < TONGUES; x++) steps[x] = x == b ? 0 : NONE;
            for (int far = 1; far < TONGUES; far++) {
                for (int x = 0; x < TONGUES; x++) {
                    if (steps[x] == NONE && touches(shelf, x, far - 1)) steps[x] = far;
                }
            }
        }

        private boolean touches(Shelf shelf, int x, int far) {
            for (int y = 0; y < TONGUES; y++) {
                if (steps[y] == far && shelf.leads(x, y)) return true;
            }
            return false;
        }

        /** The first tongue that is one step nearer to the end; NONE. */
        private int nearer(Shelf shelf, int x) {
            if (!isTongue(x) || steps[x] <= 0) return NONE;
            for (int y = 0; y < TONGUES; y++) {
                if (steps[y] == steps[x] - 1 && shelf.leads(x, y)) return y;
            }
            return NONE;
        }

        private int tongueAt(int i) {
            return i >= 0 && i < size && i < TONGUES ? tongues[i] : NONE;
        }

        /** The words of the first tongue that COME ACROSS. */
        private long comingAcross(Shelf shelf) {
            if (size == 0) return 0L;
            long coming = EVERY_WORD;
            for (int k = size - 2; k >= 0; k--) {
                coming = shelf.givers(tongueAt(k), EVERY_WORD, tongueAt(k + 1), coming);
            }
            return coming;
        }
    }

    /** FEWEST BOOKS. */
    private static final class Cover {
        private final long[] counting;
        private final long[] coming;

        private Cover() {
            counting = new long[BOOKS];
            coming = new long[TONGUES];
        }

        private int least(Shelf shelf, int a, int b, long set) {
            int useful = usefulBooks(shelf, b);
            int found = NONE;
            int least = BOOKS + 1;
            for (int books = 0; books < 1 << BOOKS; books++) {
                int size = Integer.bitCount(books);
                if ((books & ~useful) == 0 && size < least && allCome(shelf, books, a, b, set)) {
                    found = books;
                    least = size;
                }
            }
            return found;
        }

        /** A book from b is of no use: b has been come to there already. */
        private int usefulBooks(Shelf shelf, int b) {
            int useful = 0;
            for (int k = 0; k < BOOKS; k++) {
                Book told = shelf.currentAt(k);
                if (told != null && told.from != b) useful |= 1 << k;
            }
            return useful;
        }

        private boolean allCome(Shelf shelf, int books, int a, int b, long set) {
            if (!isTongue(a)) return false;
            for (int k = 0; k < BOOKS; k++) counting[k] = countingHeads(shelf, books, k);
            for (int x = 0; x < TONGUES; x++) coming[x] = x == b ? EVERY_WORD : 0L;
            boolean grown = true;
            for (int round = 0; round < TONGUES * WORDS && grown; round++) grown = widen(shelf);
            return (set & ~coming[a]) == 0;
        }

        /** The words whose ENTRY is that of book k, if there were these books alone. */
        private long countingHeads(Shelf shelf, int books, int k) {
            Book told = shelf.bookAt(k);
            if (told == null || (books >>> k & 1) == 0) return 0L;
            long heads = told.heads;
            for (int j = 0; j < BOOKS; j++) {
                Book other = shelf.bookAt(j);
                boolean stands = other != null && (books >>> j & 1) != 0;
                if (stands && other.supersedes(j, told, k)) heads &= ~other.heads;
            }
            return heads;
        }

        /** Goes one step back by every book; whether some word came to coming. */
        private boolean widen(Shelf shelf) {
            boolean grown = false;
            for (int k = 0; k < BOOKS; k++) {
                Book told = shelf.bookAt(k);
                if (told == null || counting[k] == 0 || !isTongue(told.from) || !isTongue(told.to)) continue;
                long before = coming[told.from];
                long target = coming[told.to];
                if (target != 0) coming[told.from] |= leadingInto(told, counting[k] & ~before, target, shelf.agedCount);
                grown |= coming[told.from] != before;
            }
            return grown;
        }

        private static long leadingInto(Book told, long heads, long target, boolean withAged) {
            long found = 0L;
            for (int w = 0; w < WORDS && heads != 0; w++) {
                if (has(heads, w) && (told.entrySet(w, withAged) & target) != 0) found |= only(w);
            }
            return found;
        }
    }
}
