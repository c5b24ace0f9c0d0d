import java.lang.reflect.Method;
import java.util.ArrayList;
import java.util.List;

/**
 * Every call with every mixture of numbers at the bounds and beyond them, in an empty, a filled and a full
 * object: which refusal is due (of several the first), and that what is refused changes nothing.
 */
public final class RefusalsTest {
    private static final Bounds bounds = new Bounds("RefusalsTest");
    private static final int CALLS_OF_ONE_OBJECT = 300;
    private static final int REFUSALS_OF_ONE_LOOK = 60;
    private static final int NO_REFUSAL = 0;

    private enum Kind { TONGUE, WORD, BOOK, NUMBER, SET, BYTES, PLACE, TRUTH }

    private record Argument(Kind kind, int low, int high) {
        boolean fits(long n, State state) {
            if (kind == Kind.SET) return (n & ~((1L << 60) - 1)) == 0;
            if (kind == Kind.BYTES || kind == Kind.PLACE || kind == Kind.TRUTH) return true;
            if (kind == Kind.BOOK) return n >= 0 && n < state.books();
            return n >= low && n <= high(state);
        }

        private int high(State state) {
            return high == OF_LOOKS ? state.looks() - 1 : kind == Kind.BOOK ? state.books() - 1 : high;
        }

        boolean tellsUnknown() {
            return kind != Kind.NUMBER;
        }

        long[] values(State state) {
            if (kind == Kind.SET) return new long[] {0, 1, 1L << 59, 1L << 60, Long.MIN_VALUE, -1};
            if (kind == Kind.BYTES) return new long[] {0, ' ', -1};
            if (kind == Kind.PLACE) return new long[] {Integer.MIN_VALUE, -2, -1, 0, 3, 4, 9, 10, Integer.MAX_VALUE};
            if (kind == Kind.TRUTH) return new long[] {0, 1};
            int top = high(state);
            return new long[] {Integer.MIN_VALUE, low - 1, low, low + 1, top, top + 1L, Integer.MAX_VALUE};
        }
    }

    /** A method: its arguments, and those places of them where no TONGUE may stand twice. */
    private record Face(String name, int[] differing, Argument... arguments) { }

    private static final int OF_LOOKS = -7;
    private static final int[] NONE_DIFFER = {};
    private static final Argument TONGUE = new Argument(Kind.TONGUE, 0, 3);
    private static final Argument WORD = new Argument(Kind.WORD, 0, 59);
    private static final Argument PLACE = new Argument(Kind.PLACE, 0, 0);
    private static final Argument DAY = new Argument(Kind.NUMBER, 0, 999);

    private static Argument upTo(int high) {
        return new Argument(Kind.NUMBER, 0, high);
    }


    private static final List<Face> FACES = List.of(
        new Face("feed", NONE_DIFFER, new Argument(Kind.NUMBER, 1, 8), new Argument(Kind.BYTES, 0, 0)),
        new Face("book", new int[] {0, 1}, TONGUE, TONGUE, DAY),
        new Face("fault", NONE_DIFFER),
        new Face("about", NONE_DIFFER, new Argument(Kind.BOOK, 0, 0), upTo(6)),
        new Face("now", NONE_DIFFER, DAY),
        new Face("taste", NONE_DIFFER, new Argument(Kind.TRUTH, 0, 1)),
        new Face("count", NONE_DIFFER, upTo(4)),
        new Face("entry", NONE_DIFFER, TONGUE, WORD, TONGUE, upTo(7)),
        new Face("gives", NONE_DIFFER, TONGUE, WORD, TONGUE),
        new Face("givenBy", NONE_DIFFER, TONGUE, TONGUE, WORD),
        new Face("returns", new int[] {0, 2}, TONGUE, WORD, TONGUE),
        new Face("back", new int[] {0, 2}, TONGUE, WORD, TONGUE),
        new Face("meanings", new int[] {0, 2}, TONGUE, WORD, TONGUE),
        new Face("lopsided", new int[] {0, 1}, TONGUE, TONGUE),
        new Face("weight", new int[] {0, 2, 3}, TONGUE, WORD, TONGUE, TONGUE, WORD),
        new Face("sure", new int[] {0, 2, 3}, TONGUE, WORD, TONGUE, TONGUE, WORD, upTo(1)),
        new Face("best", new int[] {0, 2, 3}, TONGUE, WORD, TONGUE, TONGUE),
        new Face("bridge", new int[] {0, 2}, TONGUE, WORD, TONGUE),
        new Face("alike", new int[] {0, 2}, TONGUE, WORD, TONGUE, WORD),
        new Face("friends", NONE_DIFFER, new Argument(Kind.NUMBER, -1, OF_LOOKS)),
        new Face("pair", NONE_DIFFER, TONGUE, WORD, WORD, new Argument(Kind.NUMBER, 1, 99)),
        new Face("say", NONE_DIFFER, TONGUE, WORD),
        new Face("clear", NONE_DIFFER),
        new Face("put", NONE_DIFFER, TONGUE, PLACE, upTo(1)),
        new Face("chain", new int[] {0, 1}, TONGUE, TONGUE, PLACE),
        new Face("across", new int[] {0, 1}, TONGUE, TONGUE, upTo(1)),
        new Face("fewest", new int[] {0, 1}, TONGUE, TONGUE, new Argument(Kind.SET, 0, 0)));

    private final Face face;
    private final Method method;
    private final State state;
    private WordBridges x;
    private int calls;
    private final List<Object[]> refusals = new ArrayList<>();

    private RefusalsTest(Face face, State state) {
        this.face = face;
        this.state = state;
        method = methodOf(face.name());
    }

    public static void main(String[] args) throws ReflectiveOperationException {
        bounds.of(0, "REFUSALS, of several the first in this order: UNKNOWN (a TONGUE, WORD, BOOK that there is not), "
            + "OUTSIDE (another number out of its bounds), NOT (not now, as told), FULL.");
        bounds.due("methods that are looked at", FACES.size(), 27);
        List<RefusalsTest> tests = new ArrayList<>();
        for (Face face : FACES) {
            for (State state : State.values()) tests.add(new RefusalsTest(face, state));
        }
        for (RefusalsTest test : tests) test.everyMixture(new long[test.face.arguments().length], 0);
        bounds.of(0, "What is refused changes nothing.");
        for (RefusalsTest test : tests) test.nothingChanged();
        bounds.end();
    }

    private static Method methodOf(String name) {
        for (Method method : WordBridges.class.getDeclaredMethods()) {
            if (method.getName().equals(name)) return method;
        }
        throw new IllegalStateException(name);
    }

    private void everyMixture(long[] chosen, int place) throws ReflectiveOperationException {
        if (place == chosen.length) {
            look(chosen);
            return;
        }
        for (long value : face.arguments()[place].values(state)) {
            chosen[place] = value;
            everyMixture(chosen, place + 1);
        }
    }

    private void look(long[] chosen) throws ReflectiveOperationException {
        long due = refusalOf(chosen);
        Object[] boxed = boxed(chosen);
        if (due == NO_REFUSAL || x == null || calls >= CALLS_OF_ONE_OBJECT) {
            x = state.make();
            calls = 0;
        }
        calls++;
        long got = ((Number) method.invoke(x, boxed)).longValue();
        String call = face.name() + java.util.Arrays.toString(chosen) + " in state " + state;
        if (due == NO_REFUSAL) {
            bounds.due(call + " is not refused", got >= -1 || isFault(got) ? 1 : 0, 1);
            x = null;
        } else {
            bounds.due(call, got, due);
            if (isRefusedByFew(chosen)) refusals.add(boxed);
        }
    }

    private boolean isFault(long answer) {
        return face.name().equals("book") && answer <= -11 && answer >= -15;
    }

    private Object[] boxed(long[] chosen) {
        Object[] boxed = new Object[chosen.length];
        Class<?>[] types = method.getParameterTypes();
        for (int k = 0; k < chosen.length; k++) {
            if (types[k] == long.class) boxed[k] = chosen[k];
            else if (types[k] == boolean.class) boxed[k] = chosen[k] != 0;
            else boxed[k] = (int) chosen[k];
        }
        return boxed;
    }

    private long refusalOf(long[] chosen) {
        boolean outside = alikeTongues(chosen);
        for (int k = 0; k < chosen.length; k++) {
            if (face.arguments()[k].fits(chosen[k], state)) continue;
            if (face.arguments()[k].tellsUnknown()) return WordBridges.UNKNOWN;
            outside = true;
        }
        if (outside) return WordBridges.OUTSIDE;
        if (isNotNow(chosen)) return WordBridges.NOT;
        return isFull(chosen) ? WordBridges.FULL : NO_REFUSAL;
    }

    private boolean alikeTongues(long[] chosen) {
        for (int i : face.differing()) {
            for (int j : face.differing()) {
                if (i != j && chosen[i] == chosen[j]) return true;
            }
        }
        return false;
    }

    private boolean isNotNow(long[] chosen) {
        switch (face.name()) {
            case "alike": return looksHold(chosen);
            case "say": return state.said() > 0 && chosen[0] != 0;
            case "put": return state.said() == 0 || chosen[0] == 0;
            default: return false;
        }
    }

    private boolean looksHold(long[] n) {
        for (int k = 0; k < state.looks(); k++) {
            if (n[0] == 0 && n[1] == k / 5 && n[2] == 1 && n[3] == k % 5) return true;
            if (n[2] == 0 && n[3] == k / 5 && n[0] == 1 && n[1] == k % 5) return true;
        }
        return false;
    }

    private boolean isFull(long[] chosen) {
        switch (face.name()) {
            case "feed": return state.bytes() + chosen[0] > 240;
            case "book": return state.books() == 8;
            case "alike": return state.looks() == 30;
            case "pair": return state.pairs() == 40;
            case "say": return state.said() == 10;
            default: return false;
        }
    }

    /** One bad number, or none: mixtures of more of them are too many to look at the whole object behind them. */
    private boolean isRefusedByFew(long[] chosen) {
        int bad = 0;
        for (int k = 0; k < chosen.length; k++) {
            if (!face.arguments()[k].fits(chosen[k], state)) bad++;
        }
        return bad <= 1 && refusals.size() < 10 * REFUSALS_OF_ONE_LOOK;
    }

    private void nothingChanged() throws ReflectiveOperationException {
        for (int at = 0; at < refusals.size(); at += REFUSALS_OF_ONE_LOOK) {
            WordBridges touched = state.make();
            int end = Math.min(at + REFUSALS_OF_ONE_LOOK, refusals.size());
            for (Object[] refused : refusals.subList(at, end)) method.invoke(touched, refused);
            bounds.unchanged(face.name() + ", refused " + (end - at) + " times,", touched, state.make());
        }
    }
}
