import java.util.ArrayList;
import java.util.List;

/** Promises 29 to 38: bodies, acts, shelves, counts. */
final class ActsTest {
    public static void main(String[] args) {
        promise29();
        promise30();
        actsAgainstJava();
        promise31();
        promise32();
        promise33();
        promise34And35();
        promise36();
        promise37();
        promise38();
        Check.end("ActsTest");
    }

    private static void promise29() {
        TuneAndWords x = new TuneAndWords();
        Check.due("bad", -1, x.body(8));
        Check.due("bad", -1, x.body(-1));
        for (int i = 0; i < 50; i++) Check.due("body", i, x.body(i % 8));
        Check.due("full", -3, x.body(0));
        Check.due("bad ahead of full", -1, x.body(8));
        Check.due("bodies", 50, x.count(4));
        x.keep(0, 49);
        Check.due("its kind", 1, x.taken(0, 0));
    }

    private static void promise30() {
        TuneAndWords x = allKinds();
        Check.due("starts", 12, x.act(4, 0, 5));
        Check.due("hums", 51, x.act(7, 1, 5));
        Check.due("says", -7, x.act(5, 2, 5));
        Check.due("tells", -26, x.act(5, 3, 5));
        int[][] none = {{8, 0}, {-1, 0}, {0, 4}, {0, -1}, {Integer.MAX_VALUE, 0}, {Integer.MIN_VALUE, 9}};
        for (int[] n : none) {
            x.act(0, 0, 5);
            Check.due("no such", 0, x.act(n[0], n[1], 5));
            Check.due("no trace then", -1, x.trace(0));
            Check.due("none ran", 0, x.count(5));
        }
    }

    private static TuneAndWords allKinds() {
        TuneAndWords x = new TuneAndWords();
        for (int kind = 0; kind < 8; kind++) x.body(kind);
        return x;
    }

    private static void actsAgainstJava() {
        int[] xs = {0, 1, -1, 5, 12345, Integer.MAX_VALUE, Integer.MIN_VALUE, 1 << 30, -77};
        TuneAndWords x = new TuneAndWords();
        for (int i = 0; i < 3; i++) x.body(i);
        for (int kind = 0; kind < 8; kind++) x.body(kind);
        for (int kind = 0; kind < 8; kind++) {
            for (int act = 0; act < 4; act++) {
                for (int v : xs) {
                    String call = "kind " + kind + " act " + act + " x " + v;
                    Check.due(call, Kinds.acted(kind, kind + 3, act, v), x.act(kind + 3, act, v));
                    List<Integer> trace = new ArrayList<>();
                    for (int i = 0; x.trace(i) >= 0; i++) trace.add(x.trace(i));
                    Check.holds(call + " trace " + trace + " due " + Kinds.trace(), trace.equals(Kinds.trace()));
                    Check.due(call + " ran", trace.size(), x.count(5));
                }
            }
        }
    }

    private static void promise31() {
        TuneAndWords x = allKinds();
        Check.due("nothing ran", -1, x.trace(0));
        x.act(5, 3, 5);
        int[] due = {61, 2, 41, 30, 10, 1, 60, 40, 11, 1};
        for (int i = 0; i < due.length; i++) Check.due("trace " + i, due[i], x.trace(i));
        Check.due("bad", -1, x.trace(10));
        Check.due("bad", -1, x.trace(-1));
        Check.due("bad", -1, x.trace(24));
        x.act(0, 2, 5);
        Check.due("of the latest", 11, x.trace(0));
        Check.due("of the latest", -1, x.trace(1));
    }

    private static void promise32() {
        TuneAndWords x = allKinds();
        Check.due("a body", 1, x.keep(5, 7));
        Check.due("its kind", 7, x.taken(5, 0));
        Check.due("nothing", 1, x.keep(5, -1));
        Check.due("nothing", -11, x.taken(5, 0));
        Check.due("nothing again", 1, x.keep(5, -1));
        x.row(5, 0, 3);
        Check.due("instead of a row", 1, x.keep(5, 0));
        Check.due("no row", -12, x.put(5, 0, 1));
        Check.due("bad body", -1, x.keep(5, 8));
        Check.due("bad body", -1, x.keep(5, -2));
        Check.due("bad shelf", -1, x.keep(6, 0));
        Check.due("bad shelf", -1, x.keep(-1, -1));
        Check.due("still there", 0, x.taken(5, 0));
    }

    private static void promise33() {
        TuneAndWords x = allKinds();
        for (int sort = 0; sort < 5; sort++) {
            Check.due("row", 1, x.row(sort, sort, 60));
            for (int i = 0; i < 60; i++) Check.due("0 at first", 0, x.element(sort, i));
            Check.due("sixty", -13, x.put(sort, 60, 1));
            Check.due("put", 1, x.put(sort, 59, 1));
            Check.due("a new one", 1, x.row(sort, sort, 60));
            Check.due("0 at first", 0, x.element(sort, 59));
        }
        Check.due("no elements", 1, x.row(5, 3, 0));
        Check.due("no elements", -13, x.put(5, 0, 1));
        x.keep(5, 0);
        Check.due("instead of a body", 1, x.row(5, 0, 1));
        Check.due("bad sort", -1, x.row(5, 5, 1));
        Check.due("bad sort", -1, x.row(5, -1, 1));
        Check.due("too long", -1, x.row(5, 0, 61));
        Check.due("too long", -1, x.row(5, 0, Integer.MAX_VALUE));
        Check.due("below 0", -14, x.row(5, 0, -1));
        Check.due("below 0", -14, x.row(5, 0, Integer.MIN_VALUE));
        Check.due("bad ahead of it", -1, x.row(5, 5, -1));
        Check.due("bad ahead of it", -1, x.row(6, 0, -1));
        Check.due("bad shelf", -1, x.row(-1, 0, 1));
        Check.due("as it was", 1, x.put(5, 0, 1));
        Check.due("as it was", -13, x.put(5, 1, 1));
    }

    private static void promise34And35() {
        TuneAndWords x = allKinds();
        long[] vs = {0, 1, -1, 127, 128, 255, 256, 300, -129, 32767, 32768, 65536, 1L << 31, (1L << 31) - 1,
            1L << 32, Long.MAX_VALUE, Long.MIN_VALUE + 1, -(1L << 40), 0x123456789ABCDEFL};
        for (int sort = 0; sort < 5; sort++) x.row(sort, sort, 2);
        for (long v : vs) {
            for (int sort = 0; sort < 5; sort++) Check.due("put", 1, x.put(sort, 1, v));
            Check.due("byte " + v, (byte) v, x.element(0, 1));
            Check.due("short " + v, (short) v, x.element(1, 1));
            Check.due("int " + v, (int) v, x.element(2, 1));
            Check.due("long " + v, v, x.element(3, 1));
            Check.due("boolean " + v, v != 0 ? 1 : 0, x.element(4, 1));
            for (int sort = 0; sort < 5; sort++) Check.due("the other", 0, x.element(sort, 0));
        }
        int[] noPlaces = {-1, 2, 60, Integer.MIN_VALUE, Integer.MAX_VALUE};
        for (int i : noPlaces) {
            Check.due("no place", -13, x.put(0, i, 1));
            Check.due("no place", Long.MIN_VALUE, x.element(0, i));
        }
        Check.due("nothing there", -11, x.put(5, 0, 1));
        Check.due("nothing there", Long.MIN_VALUE, x.element(5, 0));
        x.keep(5, 3);
        Check.due("a body", -12, x.put(5, 0, 1));
        Check.due("a body", -12, x.put(5, -1, 1));
        Check.due("a body", Long.MIN_VALUE, x.element(5, 0));
        Check.due("bad", -1, x.put(6, 0, 1));
        Check.due("bad", -1, x.put(-1, 0, 1));
        Check.due("bad", Long.MIN_VALUE, x.element(6, 0));
        Check.due("bad", Long.MIN_VALUE, x.element(-1, 0));
    }

    private static void rowIs(String name, TuneAndWords x, int shelf, int... due) {
        for (int i = 0; i < due.length; i++) Check.due(name + " " + i, due[i], x.element(shelf, i));
    }

    private static void promise36() {
        TuneAndWords x = allKinds();
        Given.row(x, 0, 1, 2, 3, 4, 5);
        Given.row(x, 1, 9, 9, 9);
        Check.due("to another", 2, x.shift(0, 3, 1, 1, 2));
        rowIs("another", x, 1, 9, 4, 5);
        Check.due("up", 4, x.shift(0, 0, 0, 1, 4));
        rowIs("up", x, 0, 1, 1, 2, 3, 4);
        Check.due("down", 4, x.shift(0, 1, 0, 0, 4));
        rowIs("down", x, 0, 1, 2, 3, 4, 4);
        Check.due("none, at the ends", 0, x.shift(0, 5, 1, 3, 0));
        Check.due("all", 3, x.shift(1, 0, 0, 2, 3));
        rowIs("all", x, 0, 1, 2, 9, 4, 5);
        int[][] noPlaces = {{0, 0, -1}, {-1, 0, 1}, {0, -1, 1}, {5, 0, 1}, {0, 3, 1}, {2, 0, 4}, {0, 1, 3}, {6, 0, 0},
            {0, 4, 0}, {0, 0, Integer.MAX_VALUE}, {Integer.MAX_VALUE, 0, 1}, {0, Integer.MAX_VALUE, 1},
            {Integer.MAX_VALUE, Integer.MAX_VALUE, Integer.MAX_VALUE}, {0, 0, Integer.MIN_VALUE},
            {Integer.MIN_VALUE, 0, 0}};
        for (int[] p : noPlaces) Check.due("no place", -13, x.shift(0, p[0], 1, p[1], p[2]));
        rowIs("as it was", x, 1, 9, 4, 5);
        for (int sort = 1; sort < 5; sort++) {
            x.row(2, sort, 5);
            x.row(3, sort, 5);
            x.put(2, 4, 1);
            Check.due("unlike sorts", -12, x.shift(0, 0, 2, 0, 1));
            Check.due("unlike sorts, no place", -12, x.shift(2, 0, 0, 0, -1));
            Check.due("like sorts", 5, x.shift(2, 0, 3, 0, 5));
            Check.due("came", 1, x.element(3, 4));
        }
        Check.due("nothing there", -11, x.shift(0, 0, 4, 0, 1));
        Check.due("nothing there", -11, x.shift(4, 0, 0, 0, 1));
        x.keep(5, 0);
        Check.due("nothing ahead of a body", -11, x.shift(5, 0, 4, 0, 1));
        Check.due("nothing ahead of a body", -11, x.shift(4, 0, 5, 0, -1));
        Check.due("a body", -12, x.shift(5, 0, 0, 0, 1));
        Check.due("a body", -12, x.shift(0, 0, 5, 0, 1));
        Check.due("a body", -12, x.shift(5, 0, 5, 0, 1));
        Check.due("bad", -1, x.shift(6, 0, 4, 0, 1));
        Check.due("bad", -1, x.shift(4, 0, -1, 0, 1));
    }

    private static void promise37() {
        TuneAndWords x = allKinds();
        // By kinds: those that it is, or is under (bits).
        int[] kinds = {1, 3, 5, 13, 19, 45, 65, 193};
        for (int kind = 0; kind < 8; kind++) {
            x.keep(0, kind);
            for (int k = 0; k < 8; k++) {
                Check.due("taken " + kind + " for " + k, (kinds[kind] >> k & 1) == 1 ? kind : -12, x.taken(0, k));
            }
            Check.due("bad", -1, x.taken(0, 8));
            Check.due("bad", -1, x.taken(0, -1));
        }
        Check.due("nothing", -11, x.taken(1, 0));
        Check.due("bad ahead of it", -1, x.taken(1, 8));
        x.row(1, 0, 1);
        Check.due("a row", -12, x.taken(1, 0));
        Check.due("bad", -1, x.taken(6, 0));
        Check.due("bad", -1, x.taken(-1, 0));
    }

    private static void promise38() {
        TuneAndWords x = allKinds();
        x.line(0, 0);
        x.line(2, 0);
        x.line(2, 0);
        Given.learn(x, 0, 0, 2, 0);
        Given.learn(x, 3, 2, 0, 0, 1);
        x.feed(1);
        x.mend(0, 3, 6);
        x.mend(0, 3, 7);
        x.undo();
        x.act(5, 3, 5);
        int[] due = {3, 4, 1, 1, 8, 10};
        for (int what = 0; what < 6; what++) Check.due("count " + what, due[what], x.count(what));
        Check.due("bad", -1, x.count(6));
        Check.due("bad", -1, x.count(-1));
    }
}
