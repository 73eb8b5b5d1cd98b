import java.util.ArrayList;
import java.util.HashMap;
import java.util.List;
import java.util.Map;

/**
 * Objects in which there is something of each kind, and looks at all that can be seen of one, so
 * that a test can tell that a call changed nothing. A look may use its object up: each gets a new
 * one, and no object is used for more than the document's 512 calls.
 */
final class House {
    interface Made {
        TuneAndWords x();
    }

    interface Call {
        long on(TuneAndWords x);
    }

    private interface Look {
        void at(TuneAndWords x, StringBuilder seen);
    }

    /** The usual one: a SONG of five LINES, a full one, one without LINES; a singing is on. */
    static final Made USUAL = House::usual;
    static final Made NEW = TuneAndWords::new;
    private static final List<Look> LOOKS = List.of(House::numbers, House::shelves, House::thoughts, House::heard,
            House::goingOn, House::changes, House::laidBack, House::tape, House::bodies);
    private static final Map<Made, List<String>> SEEN = new HashMap<>();

    /** A call is answered as is due, and nothing that can be seen of the object has changed. */
    static void refused(String what, Made state, long due, Call call) {
        Check.due(what, due, call.on(state.x()));
        changesNothing(what, state, call);
    }

    static void changesNothing(String what, Made state, Call call) {
        List<String> before = SEEN.computeIfAbsent(state, House::seen);
        for (int i = 0; i < LOOKS.size(); i++) {
            TuneAndWords x = state.x();
            call.on(x);
            Check.holds(what + " changes nothing, look " + i, look(i, x).equals(before.get(i)));
        }
    }

    /** A call does change something, so that the looks see what they are for. */
    static void changes(String what, Made state, Call call) {
        List<String> before = SEEN.computeIfAbsent(state, House::seen);
        boolean same = true;
        for (int i = 0; i < LOOKS.size(); i++) {
            TuneAndWords x = state.x();
            call.on(x);
            same = same && look(i, x).equals(before.get(i));
        }
        Check.holds(what + " changes something", !same);
    }

    static TuneAndWords usual() {
        TuneAndWords x = new TuneAndWords();
        int[] first = {12, 345, 112, 67, 545};
        for (int twr : first) x.line(0, twr);
        Given.row(x, 3, 1, 2, 3, 0, 1, 0, 3, 1, 4, 1, 5);
        x.row(5, 0, 36);
        x.shift(3, 0, 5, 0, 11);
        x.lines(1, 5, 0, 12);
        Given.learn(x, 0, 0, 0, 0, 1, 2, 3);
        Given.learn(x, 1, 0, 1, 0, 1, 2);
        Given.learn(x, 3, 0, 2, 3, 4);
        Given.learn(x, 2, 1, 2, 0, 11);
        Given.learn(x, 1, 1, 0, 1, 2, 3);
        x.mend(0, 3, 6);
        x.mend(3, 0, 5);
        x.mend(0, 4, 2);
        x.mend(111, 2, 7);
        x.undo();
        x.undo();
        Given.law(x, "a*5+t+s-3-k*2");
        for (char c : "0?9;a+k".toCharArray()) x.feed(c);
        x.begin(104);
        x.begin(4);
        x.on();
        x.image();
        x.on();
        x.has(0, 2, 0, 0);
        for (int kind = 7; kind >= 0; kind--) x.body(kind);
        x.keep(1, 2);
        x.row(2, 1, 3);
        x.put(2, 1, -30000);
        x.row(4, 4, 2);
        x.put(4, 1, 1);
        x.act(2, 3, 9);
        return x;
    }

    private static List<String> seen(Made state) {
        List<String> all = new ArrayList<>();
        for (int i = 0; i < LOOKS.size(); i++) all.add(look(i, state.x()));
        return all;
    }

    private static String look(int i, TuneAndWords x) {
        StringBuilder seen = new StringBuilder();
        LOOKS.get(i).at(x, seen);
        return seen.toString();
    }

    private static void add(StringBuilder seen, long answer) {
        seen.append(answer).append(' ');
    }

    private static void numbers(TuneAndWords x, StringBuilder seen) {
        for (int song = 0; song < 3; song++) {
            for (int line = 0; line < 12; line++) {
                for (int what = 0; what < 8; what += what == 2 ? 4 : 1) add(seen, x.of(100 * song + line, what));
            }
            add(seen, x.of(song, 5));
        }
        for (int singer = 0; singer < 4; singer++) add(seen, x.of(singer, 3));
        add(seen, x.of(0, 4));
        for (int what = 0; what < 5; what++) add(seen, x.led(what));
        for (int what = 0; what < 6; what++) add(seen, x.count(what));
        for (int i = 0; i < 24; i++) add(seen, x.trace(i));
    }

    private static void shelves(TuneAndWords x, StringBuilder seen) {
        for (int shelf = 0; shelf < 6; shelf++) {
            add(seen, x.taken(shelf, 0));
            add(seen, x.put(shelf, -1, 0));
            long first = x.element(shelf, 0);
            for (int i = 0; first != Long.MIN_VALUE && i < 61; i++) add(seen, x.element(shelf, i));
            for (int other = 0; other < 6; other++) add(seen, x.shift(shelf, 0, other, 0, 0));
        }
    }

    private static void thoughts(TuneAndWords x, StringBuilder seen) {
        for (int song = 0; song < 3; song++) {
            for (int line = 0; line < 12; line++) {
                for (int what = 0; what < 4; what++) add(seen, x.sing(100 * song + line, what));
            }
            for (int what = 0; what < 4; what++) add(seen, x.runUp(song, what));
            add(seen, x.oneBit(song, 1));
            add(seen, x.fewest(song));
            for (int singer = 0; singer < 4; singer++) add(seen, x.evenings(song, singer));
        }
        for (int k = 0; k < 12; k++) add(seen, x.sung(0, k, 0));
        for (int k = 0; k < 12; k++) add(seen, x.sung(3, k, 1));
    }

    private static void heard(TuneAndWords x, StringBuilder seen) {
        for (int shelf = 0; shelf < 6; shelf++) {
            add(seen, x.which(shelf));
            for (int song = 0; song < 3; song++) {
                add(seen, x.from(shelf, song));
                add(seen, x.judge(shelf, song));
                add(seen, x.lacked(shelf, song));
            }
        }
        for (int what = 0; what < 3; what++) add(seen, x.two(1, what));
        for (int n = 1; n < 6; n++) add(seen, 100L * x.drawn(0, 7, n, 0) + x.drawn(0, 7, n, 1));
        for (int line = 0; line < 5; line++) add(seen, x.mixed(line, 1));
    }

    private static void goingOn(TuneAndWords x, StringBuilder seen) {
        for (int i = 0; i < 62; i++) {
            add(seen, x.led(4));
            add(seen, x.on());
        }
        for (int what = 0; what < 5; what++) add(seen, x.led(what));
        add(seen, x.begin(0));
        add(seen, x.begin(100));
        for (int i = 0; i < 62; i++) add(seen, x.on());
    }

    private static void someNumbers(TuneAndWords x, StringBuilder seen) {
        for (int line = 0; line < 12; line++) {
            for (int what = 0; what < 3; what++) add(seen, x.of(line, what));
        }
        for (int singer = 0; singer < 4; singer++) add(seen, x.of(singer, 3));
        add(seen, x.of(111, 2));
        add(seen, x.of(0, 4));
    }

    private static void changes(TuneAndWords x, StringBuilder seen) {
        for (int i = 0; i < 41; i++) add(seen, x.redo());
        someNumbers(x, seen);
        for (int i = 0; i < 41; i++) {
            add(seen, x.undo());
            add(seen, x.count(3));
        }
        someNumbers(x, seen);
    }

    private static void laidBack(TuneAndWords x, StringBuilder seen) {
        add(seen, x.back());
        for (int song = 0; song < 3; song++) {
            for (int line = 0; line < 12; line++) add(seen, 16L * x.of(100 * song + line, 6) + x.of(100 * song + line, 7));
        }
        for (int what = 0; what < 5; what++) add(seen, x.led(what));
        for (int i = 0; i < 62; i++) add(seen, x.on());
        for (int what = 0; what < 5; what++) add(seen, x.led(what));
        add(seen, x.back());
    }

    private static void tape(TuneAndWords x, StringBuilder seen) {
        add(seen, x.count(2));
        add(seen, x.law());
        add(seen, x.count(2));
        for (int line = 0; line < 12; line++) {
            for (int what = 0; what < 4; what++) add(seen, x.sing(line, what));
            for (int what = 0; what < 4; what++) add(seen, x.sing(100 + line, what));
        }
    }

    private static void bodies(TuneAndWords x, StringBuilder seen) {
        for (int body = 0; body < 50; body++) {
            add(seen, x.keep(0, body));
            add(seen, x.taken(0, 0));
            if (body % 6 == 0) add(seen, x.act(body, 3, 5));
        }
        add(seen, x.body(0));
        add(seen, x.count(4));
    }
}
