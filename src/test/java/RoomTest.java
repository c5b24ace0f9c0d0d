import com.sun.management.ThreadMXBean;
import java.lang.management.ManagementFactory;

/**
 * What calls make: a run's calls live in one room, so only new objects and books may take any of it. And
 * no call throws, whatever numbers it is given in whatever state.
 */
public final class RoomTest {
    private static final long OBJECT_BYTES = 12_000;
    private static final long BOOK_BYTES = 12_000;
    private static final long MEASURING_BYTES = 400;
    private static final int[] NUMBERS = {
        Integer.MIN_VALUE, -1004, -2, -1, 0, 1, 2, 3, 4, 5, 6, 7, 8, 9, 29, 30, 39, 40, 59, 60, 61, 99, 100,
        239, 240, 241, 999, 1000, Integer.MAX_VALUE};

    private static final ThreadMXBean bean = (ThreadMXBean) ManagementFactory.getThreadMXBean();
    private static final Check check = new Check("RoomTest");
    private static long answers = 0;

    public static void main(String[] args) {
        WordBridges x = new WordBridges();
        everyNumber(x);
        fillUp(x);
        everyNumber(x);
        x.taste(false);
        everyNumber(x);
        long before = made();
        everyNumber(x);
        nothing("calls on a full object", made() - before);
        newObjects();
        books();
        check.holds("answers were given", answers != 0);
        check.end();
    }

    private static long made() {
        return bean.getThreadAllocatedBytes(Thread.currentThread().getId());
    }

    /** Some bytes are the measuring's own. */
    private static void nothing(String what, long bytes) {
        check.holds(what + " made " + bytes + " bytes", bytes < MEASURING_BYTES);
    }

    private static void newObjects() {
        long before = made();
        WordBridges x = new WordBridges();
        long bytes = made() - before;
        answers += x.count(0);
        check.holds("a new object takes " + bytes + " bytes", bytes > 0 && bytes <= OBJECT_BYTES);
    }

    private static void books() {
        WordBridges x = new WordBridges();
        for (int k = 0; k < 8; k++) {
            x.feed(4, 0x313a323bL);
            long before = made();
            answers += x.book(0, 1, 0);
            long bytes = made() - before;
            check.holds("a book takes " + bytes + " bytes", bytes <= BOOK_BYTES);
        }
        WordBridges y = new WordBridges();
        y.feed(1, 0x78);
        y.book(0, 1, 0);
        long before = made();
        for (int k = 0; k < 100; k++) {
            y.feed(1, 0x78);
            answers += y.book(0, 1, 0);
        }
        nothing("faulty books", made() - before);
    }

    private static void fillUp(WordBridges x) {
        String[] texts = {
            "0:(1)1,2*,3,4,5,6|7,8|(2)9*;1:2;2:3*;59:59;", "1:(2)0,1|2;2:0*;59:59;", "1:5;2:(1)5,6|(2)7;9:1;",
            "5:1,2;6:9;7:2*;", "0:0*;1:1;2:2,3,59;", "", "0:2|1;5:59*;", "0:5;59:1;"};
        int[][] ways = {{0, 1}, {1, 0}, {1, 2}, {2, 1}, {0, 3}, {3, 2}, {0, 1}, {3, 0}};
        for (int k = 0; k < texts.length; k++) check.due("book " + k, Check.book(x, ways[k][0], ways[k][1], k, texts[k]), k);
        for (int k = 0; k < 30; k++) x.alike(0, k, 1, k / 2);
        for (int k = 0; k < 40; k++) x.pair(1, k % 10, k % 7, 1 + k);
        for (int k = 0; k < 10; k++) x.say(0, k % 3);
        while (x.feed(8, 0x78) > 0) answers++;
    }

    /** Calls every method with every number in every place, the others being sound ones. */
    private static void everyNumber(WordBridges x) {
        for (int n : NUMBERS) {
            for (int way = 0; way < 6; way++) {
                int a = way == 0 ? n : 0;
                int w = way == 1 ? n : 1;
                int b = way == 2 ? n : 1;
                int c = way == 3 ? n : 2;
                int t = way == 4 ? n : 5;
                int what = way == 5 ? n : 0;
                answers += x.about(b, what) + x.count(what) + x.fault() + x.entry(a, w, b, what);
                answers += x.gives(a, w, b) + x.givenBy(a, b, t) + x.returns(a, w, b) + x.back(a, w, b);
                answers += x.meanings(a, w, b) + x.lopsided(a, b) + x.weight(a, w, b, c, t);
                answers += x.sure(a, w, b, c, t, what) + x.best(a, w, b, c) + x.bridge(a, w, c);
                answers += x.friends(what) + x.put(b, t, what) + x.put(c, what, 0) + x.chain(a, b, what);
                answers += x.across(a, b, what) + x.fewest(a, c, n) + x.fewest(a, b, 1L << n);
                if (n < 0 || n > 999) answers += x.now(n) + x.feed(n, n) + x.alike(a, n, b, t) + x.pair(n, w, b, c);
                if (n < 0 || n > 999) answers += x.book(n, b, c) + x.book(a, b, n) + x.say(n, w) + x.say(a, n);
            }
        }
    }
}
