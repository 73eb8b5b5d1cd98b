import java.lang.reflect.Method;
import java.util.ArrayList;
import java.util.Arrays;
import java.util.HashMap;
import java.util.List;
import java.util.Map;
import java.util.Random;
import java.util.TreeMap;

/** Long runs of calls, drawn by seeds, on the class and on the Model: each answer must be the same. */
final class ModelTest {
    private static final int CALLS = 512;
    private static final Map<String, Method> FACE = new TreeMap<>();
    private static final List<String> NAMES = new ArrayList<>();
    private static final Map<String, Integer> CALLED = new HashMap<>();

    private final Random draw;
    private final TuneAndWords x = new TuneAndWords();
    private final Model model = new Model();
    private String wrong = "";
    private int calls = 0;
    private int song = 0;
    private int lines = 5;

    private ModelTest(long seed) {
        draw = new Random(seed);
    }

    public static void main(String[] args) {
        for (Method m : TuneAndWords.class.getDeclaredMethods()) {
            if (java.lang.reflect.Modifier.isPublic(m.getModifiers())) FACE.put(m.getName(), m);
        }
        NAMES.addAll(FACE.keySet());
        int runs = args.length > 0 ? Integer.parseInt(args[0]) : 300;
        for (int seed = 0; seed < runs; seed++) {
            String wrong = new ModelTest(seed).run();
            Check.holds("run " + seed + ": " + wrong, wrong.isEmpty());
        }
        for (String name : FACE.keySet()) Check.holds("no run called " + name, CALLED.containsKey(name));
        faults(runs * 200);
        Check.end("ModelTest");
    }

    private String run() {
        song = below(3);
        lines = below(3) == 0 ? 12 : 2 + below(6);
        int first = below(4) == 0 ? below(lines) : lines;
        for (int i = 0; i < first; i++) call("line", song, twr());
        int bits = below(3) == 0 ? lines : 6 * lines;
        for (int i = 0; i < bits; i++) learn();
        while (calls < CALLS && wrong.isEmpty()) step();
        return wrong;
    }

    private void call(String name, long... args) {
        if (!wrong.isEmpty()) return;
        calls++;
        CALLED.merge(name, 1, Integer::sum);
        long due = model.call(name, args), got = called(name, args);
        if (due != got) wrong = "call " + calls + " " + name + Arrays.toString(args) + " answered " + got + ", due is " + due;
    }

    private long called(String name, long... args) {
        Method m = FACE.get(name);
        Object[] all = new Object[args.length];
        for (int i = 0; i < args.length; i++) {
            if (m.getParameterTypes()[i] == long.class) all[i] = args[i];
            else all[i] = (int) args[i];
        }
        try {
            return ((Number) m.invoke(x, all)).longValue();
        } catch (ReflectiveOperationException e) {
            throw new IllegalStateException(name + Arrays.toString(args) + " threw", e);
        }
    }

    private int below(int n) {
        return draw.nextInt(n);
    }

    /** Mostly 0 .. n-1, at times a number that is not there. */
    private int of(int n) {
        int c = below(80);
        if (c == 0) return -1;
        if (c == 1) return n;
        if (c == 2) return new int[] {Integer.MIN_VALUE, Integer.MAX_VALUE, 1000, -100, 256}[below(5)];
        return below(n);
    }

    private int anySong() {
        return below(3) == 0 ? of(3) : song;
    }

    private int sl() {
        return below(80) == 0 ? below(400) - 50 : 100 * anySong() + of(lines);
    }

    private int twr() {
        int kinds = 1 + below(8);
        return below(60) == 0 ? below(1000) : 100 * below(kinds) + 10 * below(kinds) + below(kinds);
    }

    private void learn() {
        call("has", of(4), sl(), of(2), below(5) == 0 ? 0 : of(2) | 1);
    }

    private static final long[] FAR = {0, 1, -1, 2, 3, 5, 6, 7, 8, 9, 12, 13, 60, 61, 99, 100, 111, 112, 120, 121, 200,
        255, 256, 300, -2, -100, Integer.MIN_VALUE, Integer.MAX_VALUE, Integer.MIN_VALUE + 1, Integer.MAX_VALUE - 1};

    /** Any call with any numbers, those at the ends of what there is and of the ints among them. */
    private void wild() {
        String name = NAMES.get(below(NAMES.size()));
        long[] args = new long[FACE.get(name).getParameterCount()];
        for (int i = 0; i < args.length; i++) args[i] = below(8) == 0 ? draw.nextInt() : FAR[below(below(2) == 0 ? 5 : FAR.length)];
        if (name.equals("fewest") && model.call("of", new long[] {args[0], 5}) > 6) return;
        call(name, args);
    }

    private void step() {
        if (below(12) == 0) wild();
        switch (below(40)) {
            case 0: call("line", anySong(), twr()); break;
            case 1: fromRow(); break;
            case 2: learn(); break;
            case 3:
            case 4: mend(); break;
            case 5: call("of", below(2) == 0 ? sl() : of(4), of(8)); break;
            case 6: giveLaw(); break;
            case 7: call("feed", below(5) == 0 ? of(256) : LETTERS.charAt(below(LETTERS.length()))); break;
            case 8: call("law"); break;
            case 9: call("sing", sl(), of(4)); break;
            case 10: call("sung", sl(), below(3) == 0 ? of(61) : of(6), of(2)); break;
            case 11: call("runUp", anySong(), of(4)); break;
            case 12: call("oneBit", anySong(), of(4)); break;
            case 13: fewest(); break;
            case 14: call("evenings", anySong(), of(4)); break;
            case 15: heard(); break;
            case 16:
            case 17: told(); break;
            case 18: call("two", below(20) == 0 ? of(40) : 10 * of(3) + of(3), of(3)); break;
            case 19: call("mixed", sl(), of(3)); break;
            case 20: call("drawn", anySong(), below(4) == 0 ? draw.nextInt() : below(100), 1 + of(20), of(2)); break;
            case 21:
            case 22: call("begin", sl()); break;
            case 23:
            case 24:
            case 25:
            case 26: goOn(); break;
            default: stepMore();
        }
    }

    private void stepMore() {
        switch (below(15)) {
            case 0: call("led", of(5)); break;
            case 1: if (below(2) == 0) call("image"); break;
            case 2: if (below(2) == 0) call("back"); break;
            case 3: call("undo"); break;
            case 4: call("redo"); break;
            case 5: call("body", of(8)); break;
            case 6: call("keep", of(6), of(10) - 1); break;
            case 7: call("row", of(6), of(5), below(9) == 0 ? of(61) : below(12)); break;
            case 8: call("put", of(6), of(12), below(3) == 0 ? draw.nextLong() : below(9)); break;
            case 9: call("element", of(6), of(12)); break;
            case 10: call("shift", of(6), of(8), of(6), of(8), of(8)); break;
            case 11: call("taken", of(6), of(8)); break;
            case 12: call("act", of(8), of(4), below(3) == 0 ? draw.nextInt() : below(9)); break;
            case 13: call("trace", of(11)); break;
            default: countAll();
        }
    }

    private void countAll() {
        for (int what = 0; what < 6; what++) call("count", what);
        call("count", of(6));
    }

    private void mend() {
        int what = of(5);
        int number = what == 3 ? of(4) : what == 4 ? of(80) / 79 : sl();
        call("mend", number, what, what == 3 ? of(10) : what == 4 ? of(13) : below(2) == 0 ? of(2) : of(8));
    }

    private void goOn() {
        int n = below(8) == 0 ? 70 : below(6);
        call("led", 4);
        for (int i = 0; i < n && calls < CALLS; i++) {
            if (i > 0 && model.call("led", new long[] {4}) >= 59 && below(2) == 0) changeMuch();
            call("on");
        }
        call("led", below(5));
    }

    /** What counts for the next LINE: less of it may be had, and another law may hold. */
    private void changeMuch() {
        for (int i = below(20); i > 0; i--) call("has", below(4), 100 * song + below(lines), below(2), 0);
        if (below(2) == 0) giveLaw();
        call("led", 4);
    }

    private void fewest() {
        int which = anySong();
        if (model.call("of", new long[] {which, 5}) <= 6) call("fewest", which);
    }

    private void bytes(int shelf, int n) {
        call("row", shelf, 0, n);
    }

    private void fromRow() {
        int shelf = of(6), n = below(20);
        bytes(shelf, n);
        for (int i = 0; i < n; i++) call("put", shelf, i, of(8));
        call("lines", of(3), below(4) == 0 ? of(6) : shelf, of(6), 1 + of(12));
    }

    private void heard() {
        int shelf = of(6), n = below(4);
        bytes(shelf, n);
        for (int i = 0; i < n; i++) call("put", shelf, i, below(3) == 0 ? of(8) : below(2));
        int asked = below(4) == 0 ? of(6) : shelf;
        call("which", asked);
        call("from", asked, of(3));
    }

    /** A singing as it is, often with one LINE told wrong. */
    private void told() {
        int shelf = of(6), first = of(lines), n = below(6);
        bytes(shelf, n);
        for (int i = 0; i < n; i++) {
            long line = i == 0 ? first : model.call("sung", new long[] {100 * song + first, i, 0});
            call("put", shelf, i, below(12) == 0 ? of(12) : line);
        }
        call("judge", below(6) == 0 ? of(6) : shelf, anySong());
        if (below(3) == 0) call("lacked", shelf, anySong());
    }

    // ---- laws

    private static final String LETTERS = "aatwrsk0123456789|&<=>+-*/%!();?";

    private void giveLaw() {
        String law = below(3) == 0 ? LAWS[below(LAWS.length)] : text(draw);
        if (below(8) == 0) law = spoilt(law, draw);
        for (int i = 0; i < law.length() && i < 121; i++) call("feed", law.charAt(i));
        call("law");
    }

    private static final String[] LAWS = {"a*8+t+w*2+r-k*3", "a*9+s/2;0", "1", "9", "5-k", "6-k", "s-k", "a*3+r-k",
        "a", "a&!k", "s*(a+t)-k*5", "k<3?a*2+t;a", "w?60-k*2;1", "30-k", "s>4?a*9-k;t+w+r", "a*8|t", "60-k*2"};

    private static String text(Random draw) {
        StringBuilder text = new StringBuilder();
        int lines = 1 + draw.nextInt(3);
        for (int i = 0; i < lines; i++) {
            if (i > 0) text.append(';');
            if (draw.nextInt(2) == 0) text.append(e(draw, 2)).append('?');
            text.append(e(draw, 3));
        }
        return text.toString();
    }

    private static String e(Random draw, int depth) {
        int c = draw.nextInt(10);
        if (depth == 0 || c < 3) return c == 0 ? "" + draw.nextInt(c + 20) : "" + "atwrsk".charAt(draw.nextInt(6));
        if (c == 3) return "!" + o(draw, depth);
        if (c == 4) return "-" + o(draw, depth);
        if (c == 5) return "(" + e(draw, depth - 1) + ")";
        char operator = "|&<=>+-*/%++-*".charAt(draw.nextInt(14));
        boolean compares = "<=>".indexOf(operator) >= 0;
        String left = compares ? o(draw, depth) : e(draw, depth - 1);
        return left + operator + o(draw, depth);
    }

    private static String o(Random draw, int depth) {
        String e = e(draw, depth - 1);
        return e.length() < 2 ? e : "(" + e + ")";
    }

    private static String spoilt(String law, Random draw) {
        StringBuilder all = new StringBuilder(law);
        int i = draw.nextInt(law.length());
        char c = draw.nextInt(20) == 0 ? (char) draw.nextInt(256) : LETTERS.charAt(draw.nextInt(LETTERS.length()));
        switch (draw.nextInt(4)) {
            case 0: all.setCharAt(i, c); break;
            case 1: all.insert(i, c); break;
            case 2: all.deleteCharAt(i); break;
            default: all.setLength(i);
        }
        return all.toString();
    }

    /** Where texts fail: by recursion in the class, by a stack of what is open in the Model. */
    private static void faults(int n) {
        Random draw = new Random(4711);
        TuneAndWords x = new TuneAndWords();
        int fine = 0;
        for (int i = 0; i < n; i++) {
            String text = draw.nextInt(3) == 0 ? LAWS[draw.nextInt(LAWS.length)] : text(draw);
            for (int j = draw.nextInt(4); j > 0 && !text.isEmpty(); j--) text = spoilt(text, draw);
            if (draw.nextInt(4) == 0) text = "!-(".repeat(draw.nextInt(3)) + "(((---".substring(draw.nextInt(6)) + text;
            if (text.length() > 120) text = text.substring(0, 120);
            int fault = Model.fault(text), due = fault < 0 ? 1 : -100 - fault;
            if (fault < 0) fine++;
            Check.due("fault of " + text, due, Given.law(x, text));
        }
        Check.holds("some are texts, some not", fine > n / 10 && fine < n * 9 / 10);
    }
}
