/** Promises 15 to 21: heard, told, two songs, nights. */
final class HeardTest {
    public static void main(String[] args) {
        promise15();
        promise16();
        promise17();
        promise18();
        promise19();
        promise20();
        promise21();
        refusals();
        Check.end("HeardTest");
    }

    private static void promise15() {
        TuneAndWords x = Given.tunes(1, 2, 3, 1, 2);
        Given.addTunes(x, 1, 2, 3, 1);
        Given.row(x, 0, 2, 3);
        Check.due("two songs", 3, x.which(0));
        Given.row(x, 0, 1, 2, 3);
        Check.due("one", 1, x.which(0));
        Given.row(x, 0, 2, 3, 1);
        Check.due("to the end of one", 3, x.which(0));
        Given.row(x, 0, 1, 1);
        Check.due("none", 0, x.which(0));
        Given.row(x, 0, 3, 2);
        Check.due("in order only", 0, x.which(0));
        Given.row(x, 0, 1, 3);
        Check.due("together only", 0, x.which(0));
        Given.row(x, 0);
        Check.due("nothing heard", 7, x.which(0));
        Given.row(x, 0, 1, 2, 3, 1, 2, 3);
        Check.due("longer than any", 0, x.which(0));
        Given.row(x, 0, -1);
        Check.due("no tune", 0, x.which(0));
        x.put(0, 0, 258);
        Check.due("its lowest bits", 3, x.which(0));
        x.row(0, 0, 60);
        Check.due("sixty", 0, x.which(0));
        Given.addTunes(x, 2, 0, 0, 0);
        Given.row(x, 0, 0);
        Check.due("the third", 4, x.which(0));
        Check.due("bad shelf", -1, x.which(6));
        Check.due("bad shelf", -1, x.which(-1));
    }

    private static void promise16() {
        TuneAndWords x = Given.tunes(1, 2, 3, 1, 2, 2);
        Given.row(x, 5, 1, 2);
        Check.due("the first", 0, x.from(5, 0));
        Given.row(x, 5, 2, 2);
        Check.due("the only", 4, x.from(5, 0));
        Given.row(x, 5, 1, 2, 2);
        Check.due("not the false start", 3, x.from(5, 0));
        Given.row(x, 5, 2, 2, 0);
        Check.due("not beyond the end", -2, x.from(5, 0));
        Check.due("no lines", -2, x.from(5, 1));
        Given.row(x, 5);
        Check.due("nothing heard", 0, x.from(5, 0));
        Check.due("nothing heard", 0, x.from(5, 1));
        Check.due("bad song", -1, x.from(5, 3));
        Check.due("bad song", -1, x.from(5, -1));
        Check.due("bad shelf", -1, x.from(6, 0));
    }

    private static void promise17() {
        TuneAndWords x = Given.known(5);
        Given.law(x, "a");
        Given.row(x, 0, 1, 2, 3, 4);
        Check.due("so", -2, x.judge(0, 0));
        Given.row(x, 0, 1, 2, 3);
        Check.due("fewer", -2, x.judge(0, 0));
        Given.row(x, 0, 1, 2, 3, 4, 0);
        Check.due("one too much", 4, x.judge(0, 0));
        Given.row(x, 0, 1, 3, 4);
        Check.due("not so", 1, x.judge(0, 0));
        Given.row(x, 0, 5);
        Check.due("no line", 0, x.judge(0, 0));
        Given.row(x, 0, -1, 0);
        Check.due("no line", 0, x.judge(0, 0));
        Given.row(x, 0, 1, 2, -1);
        Check.due("no line", 2, x.judge(0, 0));
        x.has(0, 3, 0, 0);
        Given.row(x, 0, 1, 2, 3);
        Check.due("it sticks there", 2, x.judge(0, 0));
        Given.row(x, 0, 3);
        Check.due("it sticks at once", 0, x.judge(0, 0));
        Given.row(x, 0, 4);
        Check.due("behind it goes on", -2, x.judge(0, 0));
        Given.row(x, 0);
        Check.due("nothing told", -2, x.judge(0, 0));
        Check.due("nothing told of no lines", -2, x.judge(0, 1));
        Given.row(x, 0, 0);
        Check.due("no lines", 0, x.judge(0, 1));
        Given.law(x, "1");
        x.row(0, 0, 60);
        for (int i = 1; i < 60; i += 2) x.put(0, i, 1);
        Check.due("sixty round", -2, x.judge(0, 0));
        x.put(0, 59, 2);
        Check.due("the last one", 59, x.judge(0, 0));
        Check.due("bad song", -1, x.judge(0, 3));
        Check.due("bad song", -1, x.judge(0, -1));
        Check.due("bad shelf", -1, x.judge(6, 0));
        Check.due("nothing in deed", 0, x.led(0));
    }

    private static void promise18() {
        TuneAndWords x = Given.tunes(0, 1, 2);
        Given.law(x, "a*(s-4)");
        Given.learn(x, 0, 0, 2, 0, 1, 2);
        Given.learn(x, 1, 0, 0, 0, 2);
        Given.row(x, 0, 0, 1);
        // SINGER 0 needs both of LINES 0 and 1; the others may lack all, 2 and 3 lack it anyway.
        Check.due("two lines", 0xFEE, x.lacked(0, 0));
        Given.learn(x, 3, 0, 2, 0, 1);
        Check.due("a second one has them", 0xFFF, x.lacked(0, 0));
        Check.due("all is as it was", 12, x.count(1));
        Given.row(x, 0, 0, 2);
        Check.due("not so: with LINE 1 it comes up, without it none", 0, x.lacked(0, 0));
        Given.law(x, "a*5+(s=5)-(s=9)*9");
        x.mend(3, 3, 9);
        Check.due("so, if SINGER 0 lacked LINE 1", 1L << 4, x.lacked(0, 0));
        Given.row(x, 0);
        Check.due("nothing told", 0xFFF, x.lacked(0, 0));
        Check.due("no lines", 0, x.lacked(0, 1));
        TuneAndWords y = Given.known(12);
        Given.row(y, 2, 0);
        Check.due("twelve lines", 0xFFFFFFFFFFFEL, y.lacked(2, 0));
        Check.due("bad song", Long.MIN_VALUE, y.lacked(2, 3));
        Check.due("bad song", Long.MIN_VALUE, y.lacked(2, -1));
        Check.due("bad shelf", Long.MIN_VALUE, y.lacked(6, 0));
        Check.due("bad shelf", Long.MIN_VALUE, y.lacked(-1, 0));
        Check.due("nothing there", Long.MIN_VALUE, y.lacked(0, 0));
        y.body(0);
        y.keep(0, 0);
        Check.due("a body", Long.MIN_VALUE, y.lacked(0, 0));
        for (int sort = 1; sort < 5; sort++) {
            y.row(0, sort, 1);
            Check.due("no bytes", Long.MIN_VALUE, y.lacked(0, 0));
        }
    }

    private static void stretch(String name, TuneAndWords x, int ab, int n, int one, int other) {
        Check.due(name + ": how long", n, x.two(ab, 0));
        Check.due(name + ": in the one", one, x.two(ab, 1));
        Check.due(name + ": in the other", other, x.two(ab, 2));
    }

    private static void promise19() {
        TuneAndWords x = Given.tunes(1, 2, 3, 4, 1, 2, 3);
        Given.addTunes(x, 1, 7, 2, 3, 4, 2, 3, 4, 7);
        Given.addTunes(x, 2, 3, 4, 1, 2, 7);
        stretch("0 and 1", x, 1, 3, 1, 1);
        stretch("1 and 0", x, 10, 3, 1, 1);
        stretch("0 and 2", x, 2, 4, 2, 0);
        stretch("2 and 0", x, 20, 4, 0, 2);
        stretch("1 and 2", x, 12, 2, 2, 0);
        TuneAndWords y = Given.tunes(5, 6, 1, 2);
        Given.addTunes(y, 1, 1, 2, 5, 6, 0, 5, 6);
        stretch("two like ones: the first in the one", y, 1, 2, 0, 2);
        stretch("and seen from the other", y, 10, 2, 0, 2);
        stretch("no lines", y, 2, 0, -2, -2);
        Given.addTunes(y, 2, 7, 7);
        stretch("none alike", y, 21, 0, -2, -2);
        TuneAndWords z = Given.tunes(3, 3, 3, 3, 3, 3, 3, 3, 3, 3, 3, 3);
        Given.addTunes(z, 2, 3, 3, 3, 3, 3, 3, 3, 3, 3, 3, 3, 3);
        stretch("twelve", z, 20, 12, 0, 0);
        int[] bad = {0, 11, 22, 3, 30, 13, -1, -10, 9, 100, Integer.MIN_VALUE, Integer.MAX_VALUE};
        for (int ab : bad) Check.due("bad " + ab, -1, x.two(ab, 0));
        Check.due("bad what", -1, x.two(1, 3));
        Check.due("bad what", -1, x.two(1, -1));
    }

    private static void promise20() {
        TuneAndWords x = Given.known(4);
        Given.law(x, "a");
        Given.addTunes(x, 1, 5, 3, 2);
        Check.due("nobody has its tunes", -2, x.mixed(0, 1));
        Given.learn(x, 2, 1, 1, 0, 1, 2);
        Check.due("words are not enough", -2, x.mixed(0, 1));
        Given.learn(x, 2, 1, 0, 0);
        Check.due("a tune that is not sung", -2, x.mixed(0, 1));
        Given.learn(x, 3, 1, 0, 1);
        Check.due("at the last line", 3, x.mixed(0, 1));
        Given.learn(x, 3, 1, 0, 2);
        Check.due("at the third", 2, x.mixed(0, 1));
        Check.due("its place in the singing", 1, x.mixed(1, 1));
        Check.due("its place in the singing", 0, x.mixed(2, 1));
        Given.learn(x, 3, 1, 0, 0);
        x.mend(100, 0, 0);
        Check.due("by the first line of the other", 0, x.mixed(0, 1));
        x.undo();
        x.has(0, 2, 1, 0);
        Check.due("a line that sticks is not sung", -2, x.mixed(0, 1));
        Check.due("the other way", 1, x.mixed(100, 0));
        Check.due("no lines", -2, x.mixed(0, 2));
        Check.due("bad line", -1, x.mixed(4, 1));
        Check.due("bad line", -1, x.mixed(-1, 1));
        Check.due("bad line", -1, x.mixed(200, 1));
        Check.due("the same song", -1, x.mixed(0, 0));
        Check.due("the same song", -1, x.mixed(100, 1));
        Check.due("bad song", -1, x.mixed(0, 3));
        Check.due("bad song", -1, x.mixed(0, -1));
    }

    private static void promise21() {
        TuneAndWords x = Given.known(3);
        Given.law(x, "a");
        Given.addTunes(x, 1, 0);
        Given.learn(x, 0, 1, 2, 0);
        Check.due("nothing is forgotten", 60, x.drawn(0, 7, 20, 0));
        Check.due("all left, of this song", 6, x.drawn(0, 7, 20, 1));
        x.mend(0, 4, 12);
        Check.due("all is forgotten", 0, x.drawn(0, 7, 20, 0));
        Check.due("all is forgotten", 0, x.drawn(0, 7, 1, 1));
        x.mend(0, 4, 2);
        Given.learn(x, 3, 0, 1, 0, 2);
        int[] seeds = {0, 1, 7, -1, 123456, Integer.MIN_VALUE, Integer.MAX_VALUE, 99, 31337, 4711};
        for (int seed : seeds) {
            for (int n = 1; n <= 20; n += 3) {
                long due = byHand(seed, n, 2);
                Check.due("right, seed " + seed + " n " + n, due / 100, x.drawn(0, seed, n, 0));
                Check.due("left, seed " + seed + " n " + n, due % 100, x.drawn(0, seed, n, 1));
            }
        }
        Check.due("in thought", 10, x.count(1));
        Check.due("no lines", 0, x.drawn(2, 1, 1, 0));
        Check.due("no lines", 0, x.drawn(2, 1, 1, 1));
        Check.due("bad n", -1, x.drawn(0, 1, 0, 0));
        Check.due("bad n", -1, x.drawn(0, 1, 21, 0));
        Check.due("bad n", -1, x.drawn(0, 1, -1, 0));
        Check.due("bad what", -1, x.drawn(0, 1, 1, 2));
        Check.due("bad what", -1, x.drawn(0, 1, 1, -1));
        Check.due("bad song", -1, x.drawn(3, 1, 1, 0));
        Check.due("bad song", -1, x.drawn(-1, 1, 1, 0));
    }

    /**
     * SINGER 0's six bits, then SINGER 3's two (words of LINES 0 and 2), by the law "a": 100 times
     * what was RIGHT, and what is left.
     */
    private static long byHand(int seed, int nights, int forgets) {
        boolean[] tune = {true, true, true};
        boolean[][] words = {{true, true, true}, {true, false, true}};
        int z = seed, right = 0;
        for (int night = 0; night < nights; night++) {
            for (int line = 0; line < 3; line++) {
                if (tune[line] && ((z = z * 1103515245 + 12345) >>> 8) % 12 < forgets) tune[line] = false;
                if (words[0][line] && ((z = z * 1103515245 + 12345) >>> 8) % 12 < forgets) words[0][line] = false;
            }
            for (int line = 0; line < 3; line++) {
                if (words[1][line] && ((z = z * 1103515245 + 12345) >>> 8) % 12 < forgets) words[1][line] = false;
            }
            for (int line = 0; line < 3 && tune[line] && (words[0][line] || words[1][line]); line++) right++;
        }
        int left = 0;
        for (int line = 0; line < 3; line++) {
            left += (tune[line] ? 1 : 0) + (words[0][line] ? 1 : 0) + (words[1][line] ? 1 : 0);
        }
        return 100L * right + left;
    }

    private static void refusals() {
        TuneAndWords x = Given.known(2);
        x.body(1);
        x.keep(1, 0);
        for (int shelf = 0; shelf < 7; shelf++) {
            if (shelf > 1 && shelf < 6) x.row(shelf, shelf - 1, 3);
            int due = shelf == 0 ? -11 : shelf == 6 ? -1 : -12;
            Check.due("which " + shelf, due, x.which(shelf));
            Check.due("from " + shelf, due, x.from(shelf, 0));
            Check.due("judge " + shelf, due, x.judge(shelf, 0));
            Check.due("bad ahead of all", -1, x.from(shelf, 3));
            Check.due("bad ahead of all", -1, x.judge(shelf, 3));
        }
    }
}
