import java.util.ArrayList;
import java.util.List;

/**
 * What can be seen of an object, as one row of answers: two objects that are not alike show it here. The
 * last calls change the object, as nothing else shows what THE TEXT and THE SENTENCE's tongue are.
 */
final class Look {
    private static final int[] WORDS = {0, 1, 2, 5, 7, 59};

    private final WordBridges x;
    private final List<Long> row = new ArrayList<>();

    private Look(WordBridges x) {
        this.x = x;
    }

    static List<Long> at(WordBridges x) {
        Look look = new Look(x);
        look.counts();
        look.settings();
        look.books();
        look.looksAndSentence();
        look.textAndTongue();
        return look.row;
    }

    private void add(long answer) {
        row.add(answer);
    }

    private void counts() {
        for (int what = 0; what <= 4; what++) add(x.count(what));
        add(x.fault());
    }

    private void settings() {
        int day = x.now(0);
        add(day);
        x.now(day);
        int aged = x.taste(true);
        add(aged);
        x.taste(aged == 1);
    }

    private void books() {
        for (int k = 0; k < x.count(0); k++) {
            for (int what = 0; what < 7; what++) add(x.about(k, what));
        }
        for (int a = 0; a < 4; a++) {
            for (int b = 0; b < 4; b++) {
                if (a == b) continue;
                for (int w : WORDS) add(x.gives(a, w, b));
                add(x.entry(a, 1, b, 2));
                add(x.chain(a, b, -1));
            }
        }
    }

    private void looksAndSentence() {
        for (int i = 0; i < x.count(2); i++) add(x.friends(i));
        for (int b = 0; b < 4; b++) add(x.put(b, -1, 0));
        for (int i = 0; i < x.count(4); i++) {
            add(x.put(1, i, 0));
            add(x.put(1, i, 1));
        }
    }

    private void textAndTongue() {
        for (int a = 0; a < 4; a++) add(x.say(a, 0));
        add(x.feed(1, ';'));
        int number = x.book(2, 3, 0);
        add(number);
        add(x.fault());
        for (int what = 0; what < 7; what++) add(x.about(number, what));
        for (int w : WORDS) add(x.gives(2, w, 3));
    }
}
