import java.util.ArrayDeque;
import java.util.ArrayList;
import java.util.Comparator;
import java.util.Deque;
import java.util.HashSet;
import java.util.LinkedHashMap;
import java.util.List;
import java.util.Map;
import java.util.Set;
import java.util.TreeMap;
import java.util.TreeSet;
import java.util.regex.Matcher;
import java.util.regex.Pattern;

/**
 * The document once more, written straight from its words and by other ways than the class goes (it
 * tries all choices, all chains and all sets of books), for ModelTest to compare answers with. It looks
 * at answers that are not refused: its callers give it numbers within bounds.
 */
final class PlainModel {
    record Sense(int field, Map<Integer, Boolean> words) { }

    record Book(int from, int to, int day, Map<Integer, List<Sense>> entries) { }

    record Fault(int place, int kind) { }

    private static final String SENSE = "(?:\\(N\\))?N\\*?(?:,N\\*?)*";
    private static final Pattern BOOK = Pattern.compile("(?:N:" + SENSE + "(?:\\|" + SENSE + ")*;)*");

    final List<Book> books = new ArrayList<>();
    int now = 999;
    boolean aged = true;
    final List<int[]> looks = new ArrayList<>();
    final List<int[]> pairs = new ArrayList<>();
    final List<Integer> sentence = new ArrayList<>();
    int sentenceTongue;
    Fault fault = null;

    // ---- books

    /** Finds every fault of the text, then takes the first. */
    int book(int a, int b, int day, String text) {
        List<Integer> starts = new ArrayList<>();
        List<String> tokens = new ArrayList<>();
        Matcher cut = Pattern.compile("[0-9]+|[^ ]", Pattern.DOTALL).matcher(text);
        while (cut.find()) {
            starts.add(cut.start());
            tokens.add(cut.group());
        }
        List<Fault> faults = new ArrayList<>();
        int sound = soundTokens(tokens, starts, text.length(), faults);
        Book book = new Book(a, b, day, new TreeMap<>());
        fill(book, tokens.subList(0, sound), starts, faults);
        faults.sort(Comparator.comparingInt(Fault::place).thenComparingInt(Fault::kind));
        fault = faults.isEmpty() ? null : faults.get(0);
        if (fault != null) return -10 - fault.kind();
        books.add(book);
        return books.size() - 1;
    }

    private static int soundTokens(List<String> tokens, List<Integer> starts, int length, List<Fault> faults) {
        StringBuilder kinds = new StringBuilder();
        for (int k = 0; k < tokens.size(); k++) {
            String token = tokens.get(k);
            char first = token.charAt(0);
            kinds.append(first >= '0' && first <= '9' ? "N" : first == 'N' ? "?" : token);
            Matcher matcher = BOOK.matcher(kinds);
            if (!matcher.matches() && !matcher.hitEnd()) {
                faults.add(new Fault(starts.get(k), 1));
                return k;
            }
        }
        if (!BOOK.matcher(kinds).matches()) faults.add(new Fault(length, 1));
        return tokens.size();
    }

    private static void fill(Book book, List<String> tokens, List<Integer> starts, List<Fault> faults) {
        List<Sense> senses = null;
        int field = -1;
        int last = -1;
        boolean open = false;
        for (int k = 0; k < tokens.size(); k++) {
            String token = tokens.get(k);
            int at = starts.get(k);
            String before = k == 0 ? ";" : tokens.get(k - 1);
            if (token.equals("*")) senses.get(senses.size() - 1).words().put(last, true);
            if (token.equals(":") || token.equals("|")) {
                if (senses.size() == 3) faults.add(new Fault(at, 5));
                open = true;
                field = -1;
            }
            if (!Character.isDigit(token.charAt(0))) continue;
            int value = token.length() > 2 ? 1000 : Integer.parseInt(token);
            if (value > (before.equals("(") ? 5 : 59)) faults.add(new Fault(at, 2));
            if (before.equals(";")) {
                if (book.entries().containsKey(value)) faults.add(new Fault(at, 3));
                senses = new ArrayList<>();
                book.entries().put(value, senses);
            } else if (before.equals("(")) {
                field = value;
            } else {
                if (open) senses.add(new Sense(field, new LinkedHashMap<>()));
                open = false;
                Map<Integer, Boolean> words = senses.get(senses.size() - 1).words();
                if (words.containsKey(value)) faults.add(new Fault(at, 4));
                if (words.size() == 6) faults.add(new Fault(at, 5));
                words.put(value, false);
                last = value;
            }
        }
    }

    int about(int number, int what) {
        Book book = books.get(number);
        int senses = 0;
        int words = 0;
        int old = 0;
        for (List<Sense> entry : book.entries().values()) {
            senses += entry.size();
            for (Sense sense : entry) {
                words += sense.words().size();
                for (boolean is : sense.words().values()) old += is ? 1 : 0;
            }
        }
        int[] answers = {book.from(), book.to(), book.day(), book.entries().size(), senses, words, old};
        return answers[what];
    }

    // ---- entries

    private Set<Integer> everyBook() {
        Set<Integer> all = new TreeSet<>();
        for (int k = 0; k < books.size(); k++) all.add(k);
        return all;
    }

    private int bookOf(int a, int w, int b, Set<Integer> among) {
        return among.stream()
            .filter(k -> books.get(k).from() == a && books.get(k).to() == b && books.get(k).day() <= now)
            .filter(k -> books.get(k).entries().containsKey(w))
            .max(Comparator.comparingInt((Integer k) -> books.get(k).day()).thenComparingInt(k -> k))
            .orElse(-1);
    }

    /** The senses of an entry with the words that count, each by its order. */
    private List<List<Integer>> senses(int a, int w, int b, Set<Integer> among) {
        List<List<Integer>> found = new ArrayList<>();
        int k = bookOf(a, w, b, among);
        if (k < 0) return found;
        for (Sense sense : books.get(k).entries().get(w)) {
            List<Integer> words = new ArrayList<>();
            sense.words().forEach((t, old) -> {
                if (aged || !old) words.add(t);
            });
            found.add(words);
        }
        return found;
    }

    private int field(int a, int w, int b, int sense) {
        int k = bookOf(a, w, b, everyBook());
        return books.get(k).entries().get(w).get(sense).field();
    }

    private Set<Integer> giveSet(int a, int w, int b, Set<Integer> among) {
        Set<Integer> all = new TreeSet<>();
        senses(a, w, b, among).forEach(all::addAll);
        return all;
    }

    private Set<Integer> giveSet(int a, int w, int b) {
        return giveSet(a, w, b, everyBook());
    }

    static long bits(Set<Integer> set) {
        long bits = 0;
        for (int w : set) bits |= 1L << w;
        return bits;
    }

    int entry(int a, int w, int b, int what) {
        int k = bookOf(a, w, b, everyBook());
        if (k < 0) return -1;
        List<Sense> told = books.get(k).entries().get(w);
        if (what == 0) return k;
        if (what == 1) return told.size();
        int sense = (what - 2) % 3;
        if (sense >= told.size()) return -1;
        return what < 5 ? told.get(sense).field() : senses(a, w, b, everyBook()).get(sense).size();
    }

    long gives(int a, int w, int b) {
        return bits(giveSet(a, w, b));
    }

    long givenBy(int a, int b, int t) {
        Set<Integer> found = new TreeSet<>();
        for (int w = 0; w < 60; w++) if (giveSet(a, w, b).contains(t)) found.add(w);
        return bits(found);
    }

    int returns(int a, int w, int b) {
        return giveSet(a, w, b).stream().anyMatch(t -> giveSet(b, t, a).contains(w)) ? 1 : 0;
    }

    long back(int a, int w, int b) {
        Set<Integer> found = new TreeSet<>();
        for (int t : giveSet(a, w, b)) found.addAll(giveSet(b, t, a));
        found.remove(w);
        return bits(found);
    }

    int meanings(int a, int w, int b) {
        List<Integer> words = new ArrayList<>(giveSet(a, w, b));
        int[] leader = new int[60];
        for (int t : words) leader[t] = t;
        for (int s : words) {
            for (int t : words) {
                if (!joined(a, w, b, s, t)) continue;
                int from = leader[s];
                int to = leader[t];
                for (int u : words) if (leader[u] == from) leader[u] = to;
            }
        }
        Set<Integer> leaders = new HashSet<>();
        for (int t : words) leaders.add(leader[t]);
        return leaders.size();
    }

    private boolean joined(int a, int w, int b, int s, int t) {
        for (List<Integer> sense : senses(a, w, b, everyBook())) {
            if (sense.contains(s) && sense.contains(t)) return true;
        }
        Set<Integer> common = giveSet(b, s, a);
        common.retainAll(giveSet(b, t, a));
        common.remove(w);
        return !common.isEmpty();
    }

    int lopsided(int a, int b) {
        int found = 0;
        for (int w = 0; w < 60; w++) {
            for (int t : giveSet(a, w, b)) {
                if (bookOf(b, t, a, everyBook()) >= 0 && !giveSet(b, t, a).contains(w)) found++;
            }
        }
        return found;
    }

    // ---- through

    int weight(int a, int w, int m, int c, int t) {
        int found = 0;
        List<List<Integer>> first = senses(a, w, m, everyBook());
        for (int i = 0; i < first.size(); i++) {
            for (int x : first.get(i)) {
                List<List<Integer>> second = senses(m, x, c, everyBook());
                for (int j = 0; j < second.size(); j++) {
                    int f = field(a, w, m, i);
                    int g = field(m, x, c, j);
                    if ((f == g || f == -1 || g == -1) && second.get(j).contains(t)) found++;
                }
            }
        }
        return found;
    }

    int[] sure(int a, int w, int m, int c, int t) {
        Set<Integer> there = giveSet(a, w, m);
        Set<Integer> here = giveSet(c, t, m);
        int all = there.size() + here.size();
        there.retainAll(here);
        if (there.isEmpty()) return new int[] {0, 1};
        int upper = 2 * there.size();
        int lower = all;
        for (int d = 60; d > 1; d--) {
            while (upper % d == 0 && lower % d == 0) {
                upper /= d;
                lower /= d;
            }
        }
        return new int[] {upper, lower};
    }

    /** The best as a row: m, the word, weight, upper, lower; null if no way leads. */
    private int[] bestRow(int a, int w, int m, int c) {
        List<int[]> rows = new ArrayList<>();
        for (int t = 0; t < 60; t++) {
            int ways = weight(a, w, m, c, t);
            int[] sure = sure(a, w, m, c, t);
            if (ways > 0) rows.add(new int[] {m, t, ways, sure[0], sure[1]});
        }
        return rows.stream().min(SUREST.thenComparingInt(r -> r[1])).orElse(null);
    }

    private static final Comparator<int[]> SUREST = (r, s) -> {
        int sure = Integer.compare(s[3] * r[4], r[3] * s[4]);
        return sure != 0 ? sure : Integer.compare(s[2], r[2]);
    };

    int best(int a, int w, int m, int c) {
        int[] row = bestRow(a, w, m, c);
        return row == null ? -1 : row[1];
    }

    int bridge(int a, int w, int c) {
        List<int[]> rows = new ArrayList<>();
        for (int m = 0; m < 4; m++) {
            int[] row = m == a || m == c ? null : bestRow(a, w, m, c);
            if (row != null) rows.add(row);
        }
        return rows.stream().min(SUREST.thenComparingInt(r -> r[0])).map(r -> r[0]).orElse(-1);
    }

    boolean looksHold(int a, int w, int b, int v) {
        for (int[] l : looks) {
            if (l[0] == a && l[1] == w && l[2] == b && l[3] == v) return true;
            if (l[0] == b && l[1] == v && l[2] == a && l[3] == w) return true;
        }
        return false;
    }

    int friends(int i) {
        int[] l = looks.get(i);
        int has = 0;
        int hasNot = 0;
        if (bookOf(l[0], l[1], l[2], everyBook()) >= 0) {
            if (giveSet(l[0], l[1], l[2]).contains(l[3])) has++; else hasNot++;
        }
        if (bookOf(l[2], l[3], l[0], everyBook()) >= 0) {
            if (giveSet(l[2], l[3], l[0]).contains(l[1])) has++; else hasNot++;
        }
        return hasNot > 0 ? 2 : has > 0 ? 1 : 0;
    }

    // ---- sentences

    /** The choices of each word as rows: the word, its sense, its field; one of NONE if it stays. */
    private List<List<int[]>> choices(int b) {
        List<List<int[]>> all = new ArrayList<>();
        for (int w : sentence) {
            List<int[]> row = new ArrayList<>();
            List<List<Integer>> senses = senses(sentenceTongue, w, b, everyBook());
            for (int s = 0; s < senses.size(); s++) {
                for (int t : senses.get(s)) row.add(new int[] {t, s, field(sentenceTongue, w, b, s)});
            }
            if (row.isEmpty()) row.add(new int[] {-1, -1, -1});
            all.add(row);
        }
        return all;
    }

    /** How many sentences there are to try. */
    long tries(int b) {
        long product = 1;
        for (List<int[]> row : choices(b)) product = Math.min(1L << 40, product * row.size());
        return product;
    }

    /** Tries every sentence, in their order: the sum, then of each word its word and its sense. */
    int[] put(int b) {
        List<List<int[]>> all = choices(b);
        int n = all.size();
        int[] at = new int[n];
        int[] answer = null;
        while (true) {
            int sum = 0;
            for (int i = 0; i + 1 < n; i++) sum += tie(b, all.get(i).get(at[i]), all.get(i + 1).get(at[i + 1]));
            if (answer == null || sum > answer[0]) {
                answer = new int[1 + 2 * n];
                answer[0] = sum;
                for (int i = 0; i < n; i++) {
                    answer[1 + 2 * i] = all.get(i).get(at[i])[0];
                    answer[2 + 2 * i] = all.get(i).get(at[i])[1];
                }
            }
            int turn = n - 1;
            while (turn >= 0 && at[turn] + 1 == all.get(turn).size()) at[turn--] = 0;
            if (turn < 0) return answer;
            at[turn]++;
        }
    }

    private int tie(int b, int[] one, int[] other) {
        if (one[0] < 0 || other[0] < 0) return 0;
        int strength = 0;
        for (int[] p : pairs) if (p[0] == b && p[1] == one[0] && p[2] == other[0]) strength = p[3];
        return strength + (one[2] >= 0 && one[2] == other[2] ? 10 : 0);
    }

    // ---- across

    List<Integer> chain(int a, int b) {
        List<List<Integer>> rows = new ArrayList<>();
        Deque<List<Integer>> open = new ArrayDeque<>();
        open.add(List.of(a));
        while (!open.isEmpty()) {
            List<Integer> row = open.remove();
            int end = row.get(row.size() - 1);
            if (end == b) rows.add(row);
            for (int next = 0; next < 4; next++) {
                int to = next;
                boolean leads = books.stream().anyMatch(k -> k.from() == end && k.to() == to && k.day() <= now);
                if (row.contains(next) || !leads) continue;
                List<Integer> longer = new ArrayList<>(row);
                longer.add(next);
                open.add(longer);
            }
        }
        return rows.stream()
            .min(Comparator.comparingInt((List<Integer> r) -> r.size()).thenComparing(r -> r.toString()))
            .orElse(List.of());
    }

    long across(int a, int b, int what) {
        Set<Integer> found = new TreeSet<>();
        List<Integer> chain = chain(a, b);
        for (int w = 0; w < 60; w++) {
            int word = w;
            if (what == 1) {
                boolean some = books.stream().anyMatch(k -> k.from() == a && k.day() <= now && k.entries().containsKey(word));
                if (some && bookOf(a, w, b, everyBook()) < 0) found.add(w);
                continue;
            }
            Set<Integer> here = new TreeSet<>(Set.of(w));
            for (int i = 0; i + 1 < chain.size(); i++) {
                Set<Integer> next = new TreeSet<>();
                for (int t : here) next.addAll(giveSet(chain.get(i), t, chain.get(i + 1)));
                here = next;
            }
            if (!chain.isEmpty() && !here.isEmpty()) found.add(w);
        }
        return bits(found);
    }

    int fewest(int a, int b, long set) {
        List<Integer> sets = new ArrayList<>();
        for (int s = 0; s < 1 << books.size(); s++) sets.add(s);
        sets.sort(Comparator.comparingInt((Integer s) -> Integer.bitCount(s)).thenComparingInt(s -> s));
        for (int s : sets) {
            Set<Integer> among = new TreeSet<>();
            for (int k = 0; k < books.size(); k++) if ((s >> k & 1) != 0) among.add(k);
            if (among.stream().anyMatch(k -> books.get(k).day() > now)) continue;
            boolean all = true;
            for (int w = 0; w < 60 && all; w++) {
                if ((set >> w & 1) != 0) all = comes(a, w, b, among);
            }
            if (all) return s;
        }
        return -1;
    }

    private boolean comes(int a, int w, int b, Set<Integer> among) {
        Set<Integer> seen = new HashSet<>(Set.of(a * 60 + w));
        Deque<Integer> open = new ArrayDeque<>(seen);
        while (!open.isEmpty()) {
            int here = open.remove();
            if (here / 60 == b) return true;
            for (int to = 0; to < 4; to++) {
                for (int t : giveSet(here / 60, here % 60, to, among)) {
                    if (seen.add(to * 60 + t)) open.add(to * 60 + t);
                }
            }
        }
        return false;
    }
}
