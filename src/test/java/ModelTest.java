import java.util.Random;

/** Runs of calls by fixed seeds, each answer compared with that of PlainModel. */
public final class ModelTest {
    private static final Check check = new Check("ModelTest");
    private static final int RUNS = 400;
    private static final int CALLS = 220;
    private static final int MOST_TRIES = 3000;

    private final Random random;
    private final WordBridges x = new WordBridges();
    private final PlainModel model = new PlainModel();
    private final int words;
    private final int tongues;
    private final int days;
    private final String run;
    private String text = "";

    private ModelTest(int seed) {
        random = new Random(seed);
        words = 2 + random.nextInt(8);
        tongues = 2 + random.nextInt(3);
        days = 1 + random.nextInt(4);
        run = "run " + seed + ": ";
    }

    public static void main(String[] args) {
        for (int seed = 0; seed < RUNS; seed++) {
            ModelTest test = new ModelTest(seed);
            for (int k = 0; k < CALLS; k++) test.call(k);
        }
        check.end();
    }

    private int tongue() {
        return random.nextInt(tongues);
    }

    private int otherThan(int a) {
        return (a + 1 + random.nextInt(3)) % 4;
    }

    private int word() {
        return random.nextInt(20) == 0 ? 59 - random.nextInt(3) : random.nextInt(words);
    }

    private void due(String call, long got, long want) {
        check.due(run + call, got, want);
    }

    private void call(int k) {
        int kind = random.nextInt(20);
        if (k < 12 && kind < 10 || kind == 0) tellBook();
        else if (kind == 1) settings();
        else if (kind < 4) sentence();
        else if (kind < 5) looks();
        else if (kind < 9) entries();
        else if (kind < 13) through();
        else if (kind < 16) put();
        else if (kind < 18) across();
        else fewest();
    }

    // ---- texts

    private String blank() {
        return random.nextInt(15) == 0 ? " " : "";
    }

    private String number(int n) {
        return blank() + (random.nextInt(25) == 0 && n < 10 ? "0" + n : "" + n) + blank();
    }

    private String sense() {
        StringBuilder sense = new StringBuilder();
        if (random.nextInt(2) == 0) sense.append("(").append(number(random.nextInt(3))).append(")");
        int size = 1 + random.nextInt(random.nextInt(8) == 0 ? 7 : 2);
        boolean[] used = new boolean[60];
        for (int k = 0; k < size; k++) {
            int t = word();
            if (used[t] && random.nextInt(30) != 0) continue;
            if (k > 0) sense.append(",");
            used[t] = true;
            sense.append(number(t));
            if (random.nextInt(5) == 0) sense.append("*").append(blank());
        }
        return sense.toString();
    }

    private String told() {
        StringBuilder told = new StringBuilder();
        boolean[] used = new boolean[60];
        int entries = random.nextInt(8);
        for (int k = 0; k < entries; k++) {
            int w = word();
            if (used[w] && random.nextInt(30) != 0) continue;
            used[w] = true;
            told.append(number(w)).append(":").append(sense());
            int more = random.nextInt(random.nextInt(30) == 0 ? 4 : 3);
            for (int s = 0; s < more; s++) told.append("|").append(sense());
            told.append(";");
        }
        if (random.nextInt(6) == 0) spoil(told);
        return told.toString();
    }

    private void spoil(StringBuilder told) {
        String signs = "0123456789:;|,*() xN\u00e9";
        char sign = signs.charAt(random.nextInt(signs.length()));
        int at = random.nextInt(told.length() + 1);
        int way = random.nextInt(4);
        if (way == 0) told.insert(at, sign);
        else if (at == told.length()) return;
        else if (way == 1) told.setCharAt(at, sign);
        else if (way == 2) told.deleteCharAt(at);
        else told.setLength(at);
    }

    private void tellBook() {
        String more = told();
        for (int at = 0; at < more.length(); ) {
            int n = Math.min(1 + random.nextInt(8), more.length() - at);
            long bytes = random.nextLong();
            for (int k = 0; k < n; k++) bytes = bytes << 8 | more.charAt(at + k) & 255;
            boolean fits = text.length() + n <= 240;
            if (fits) text += more.substring(at, at + n);
            due("feed", x.feed(n, bytes), fits ? text.length() : -1004);
            at += n;
        }
        due("count(1)", x.count(1), text.length());
        int a = tongue();
        int b = random.nextInt(10) == 0 ? a : otherThan(a);
        int day = random.nextInt(20) == 0 ? 1000 : random.nextInt(days);
        int want = a == b || day > 999 ? -1002 : model.books.size() == 8 ? -1004 : model.book(a, b, day, text);
        String told = text;
        if (want > -1000) text = "";
        due("book of '" + told + "'", x.book(a, b, day), want);
        due("fault of '" + told + "'", x.fault(), model.fault == null ? -1 : model.fault.place());
        due("count(0)", x.count(0), model.books.size());
        for (int k = 0; k < model.books.size(); k++) {
            for (int what = 0; what < 7; what++) due("about(" + k + ", " + what + ")", x.about(k, what), model.about(k, what));
        }
    }

    private void settings() {
        if (random.nextBoolean()) {
            int day = random.nextInt(3) == 0 ? 999 : random.nextInt(days);
            due("now", x.now(day), model.now);
            model.now = day;
        } else {
            boolean aged = random.nextBoolean();
            due("taste", x.taste(aged), model.aged ? 1 : 0);
            model.aged = aged;
        }
    }

    // ---- questions

    private void entries() {
        int a = tongue();
        int b = otherThan(a);
        int w = word();
        String of = "(" + a + ", " + w + ", " + b + ")";
        for (int what = 0; what < 8; what++) due("entry " + what + of, x.entry(a, w, b, what), model.entry(a, w, b, what));
        due("gives" + of, x.gives(a, w, b), model.gives(a, w, b));
        due("givenBy" + of, x.givenBy(a, b, w), model.givenBy(a, b, w));
        due("returns" + of, x.returns(a, w, b), model.returns(a, w, b));
        due("back" + of, x.back(a, w, b), model.back(a, w, b));
        due("meanings" + of, x.meanings(a, w, b), model.meanings(a, w, b));
        due("lopsided" + of, x.lopsided(a, b), model.lopsided(a, b));
    }

    private void through() {
        int a = tongue();
        int c = otherThan(a);
        int m = random.nextInt(4);
        int w = word();
        int t = word();
        boolean twice = a == m || m == c;
        String of = "(" + a + ", " + w + ", " + m + ", " + c + ", " + t + ")";
        due("weight" + of, x.weight(a, w, m, c, t), twice ? -1002 : model.weight(a, w, m, c, t));
        for (int what = 0; what < 2; what++) {
            due("sure" + of, x.sure(a, w, m, c, t, what), twice ? -1002 : model.sure(a, w, m, c, t)[what]);
        }
        due("best" + of, x.best(a, w, m, c), twice ? -1002 : model.best(a, w, m, c));
        if (random.nextInt(3) == 0) due("bridge" + of, x.bridge(a, w, c), model.bridge(a, w, c));
    }

    private void looks() {
        int a = tongue();
        int b = otherThan(a);
        int w = word();
        int v = word();
        if (model.looksHold(a, w, b, v)) {
            due("alike again", x.alike(a, w, b, v), -1003);
        } else if (model.looks.size() == 30) {
            due("alike full", x.alike(a, w, b, v), -1004);
        } else {
            model.looks.add(new int[] {a, w, b, v});
            due("alike", x.alike(a, w, b, v), model.looks.size());
        }
        int falseOnes = 0;
        for (int i = 0; i < model.looks.size(); i++) {
            due("friends(" + i + ")", x.friends(i), model.friends(i));
            if (model.friends(i) == 2) falseOnes++;
        }
        due("friends(NONE)", x.friends(-1), falseOnes);
    }

    private void sentence() {
        int a = tongue();
        int w = word();
        int kind = random.nextInt(12);
        if (kind == 0) {
            due("clear", x.clear(), model.sentence.size());
            model.sentence.clear();
        } else if (kind < 6) {
            boolean other = !model.sentence.isEmpty() && model.sentenceTongue != a;
            boolean full = model.sentence.size() == 10;
            if (!other && !full) {
                model.sentence.add(w);
                model.sentenceTongue = a;
            }
            due("say", x.say(a, w), other ? -1003 : full ? -1004 : model.sentence.size());
        } else {
            int y = word();
            int strength = 1 + random.nextInt(random.nextInt(4) == 0 ? 99 : 20);
            boolean full = model.pairs.size() == 40;
            if (!full) model.pairs.add(new int[] {a, w, y, strength});
            due("pair", x.pair(a, w, y, strength), full ? -1004 : model.pairs.size());
        }
    }

    private void put() {
        int b = tongue();
        boolean not = model.sentence.isEmpty() || model.sentenceTongue == b;
        if (not) due("put not", x.put(b, -1, 0), -1003);
        if (not || model.tries(b) > MOST_TRIES) return;
        int[] want = model.put(b);
        due("put sum", x.put(b, -1, random.nextInt(2)), want[0]);
        for (int i = 0; i < model.sentence.size(); i++) {
            due("put word " + i, x.put(b, i, 0), want[1 + 2 * i]);
            due("put sense " + i, x.put(b, i, 1), want[2 + 2 * i]);
        }
        due("put behind the end", x.put(b, model.sentence.size(), 0), -1);
    }

    private void across() {
        int a = random.nextInt(4);
        int b = (a + 1 + random.nextInt(3)) % 4;
        var chain = model.chain(a, b);
        due("chain", x.chain(a, b, -1), chain.isEmpty() ? -1 : chain.size());
        for (int i = 0; i < 5; i++) due("chain " + i, x.chain(a, b, i), i < chain.size() ? chain.get(i) : -1);
        due("across 0", x.across(a, b, 0), model.across(a, b, 0));
        due("across 1", x.across(a, b, 1), model.across(a, b, 1));
    }

    private void fewest() {
        int a = tongue();
        int b = otherThan(a);
        long set = 0;
        int size = random.nextInt(4);
        long heads = model.across(a, (a + 1) % 4, 1) | model.across(a, (a + 2) % 4, 1) | model.across(a, b, 0);
        for (int k = 0; k < size; k++) {
            int w = word();
            if (random.nextInt(6) == 0 || (heads >> w & 1) != 0) set |= 1L << w;
        }
        due("fewest(" + a + ", " + b + ", " + set + ")", x.fewest(a, b, set), model.fewest(a, b, set));
    }
}
