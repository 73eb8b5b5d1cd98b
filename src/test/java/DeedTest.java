/** Promises 22 to 28: singing in deed, the image, changes undone and done again. */
final class DeedTest {
    public static void main(String[] args) {
        promise22();
        promise23();
        promise23Round();
        nothingBehindSixty();
        allLostBehindSixty();
        promise23Learning();
        promise24();
        promise25And26();
        imageWithoutSinging();
        promise27And28();
        fortyChanges();
        fortyUnlikeChanges();
        whatIsNoChange();
        Check.end("DeedTest");
    }

    private static void promise22() {
        TuneAndWords x = Given.known(3);
        x.line(0, 0);
        Check.due("bad line", -1, x.begin(4));
        Check.due("bad line", -1, x.begin(-1));
        Check.due("bad line", -1, x.begin(100));
        Check.due("no singing", 0, x.led(0));
        Check.due("sticks", 0, x.begin(3));
        Check.due("it is over", -5, x.on());
        Check.due("a singing", 1, x.led(0));
        Check.due("sung", 1, x.begin(1));
        Check.due("a singing is on", -5, x.begin(1));
        Check.due("a singing is on", -5, x.begin(3));
        Check.due("bad ahead of it", -1, x.begin(4));
        Check.due("two singings", 2, x.led(0));
    }

    private static void promise23() {
        TuneAndWords x = Given.known(4);
        Given.law(x, "a");
        Check.due("none is on", -5, x.on());
        x.begin(1);
        Check.due("the next", 2, x.on());
        Check.due("the next", 3, x.on());
        Check.due("it ends", -2, x.on());
        Check.due("it is over", -5, x.on());
        x.has(0, 2, 1, 0);
        x.begin(0);
        Check.due("the next", 1, x.on());
        Check.due("it sticks", -22, x.on());
        Check.due("it is over", -5, x.on());
        TuneAndWords y = Given.known(12);
        y.has(0, 11, 0, 0);
        y.begin(10);
        Check.due("the last one sticks", -31, y.on());
        y.has(0, 0, 0, 0);
        y.begin(1);
        Given.law(y, "!a*!k");
        Check.due("the first one sticks", -20, y.on());
    }

    private static void promise23Round() {
        TuneAndWords x = Given.known(2);
        Given.law(x, "1");
        Check.due("sung", 1, x.begin(0));
        for (int i = 1; i < 60; i++) Check.due("by turns " + i, i % 2, x.on());
        Check.due("sixty", 60, x.led(4));
        Check.due("round", -6, x.on());
        Check.due("over", -5, x.on());
        Check.due("sixty in all", 60, x.led(1));
        Check.due("none sticks", 0, x.led(2));
    }

    private static void sing(TuneAndWords x, int sl, int lines) {
        x.begin(sl);
        for (int i = 1; i < lines; i++) x.on();
    }

    /** With 60 LINES sung no further one is looked at; with 59 one is. */
    private static void nothingBehindSixty() {
        TuneAndWords x = Given.known(2);
        x.line(0, 0);
        Given.learn(x, 0, 0, 0, 2);
        String[] laws = {"1", "0", "30-k", "!k"};
        for (int i = 0; i < laws.length; i++) {
            Given.law(x, "1");
            sing(x, 0, 60);
            Given.law(x, laws[i]);
            Check.due("round by " + laws[i], -6, x.on());
            led("round by " + laws[i], x, i + 1, 60 * (i + 1), 0, 60, -5);
        }
        Given.law(x, "1");
        sing(x, 0, 59);
        Given.law(x, "0");
        Check.due("an end with 59 sung", -2, x.on());
        Given.law(x, "1");
        sing(x, 0, 59);
        Given.law(x, "a");
        Check.due("the 60th", 1, x.on());
        Check.due("round", -6, x.on());
        Given.law(x, "1");
        sing(x, 0, 59);
        Given.law(x, "!k");
        Check.due("sticks with 59 sung", -22, x.on());
        led("sticks", x, 7, 418, 1, 60, -5);
    }

    private static void allLostBehindSixty() {
        TuneAndWords x = Given.known(2);
        Given.law(x, "1");
        sing(x, 1, 60);
        Check.due("sixty", 60, x.led(4));
        Check.due("kept", 1, x.image());
        for (int bit = 0; bit < 4; bit++) x.has(0, bit / 2, bit % 2, 0);
        Check.due("round", -6, x.on());
        Check.due("over", -5, x.on());
        Check.due("laid back", 1, x.back());
        led("as it was", x, 1, 60, 0, 60, 60);
        Given.law(x, "0");
        Check.due("round again", -6, x.on());
        led("over", x, 1, 60, 0, 60, -5);
    }

    private static void promise23Learning() {
        TuneAndWords x = Given.known(4);
        Given.law(x, "a+s-5-k");
        x.begin(0);
        Check.due("the next", 1, x.on());
        // Learning, losing and being surer count at once, and so does what was sung before.
        Given.learn(x, 3, 0, 1, 0, 3);
        x.mend(3, 3, 8);
        Check.due("of the surer one's the least, sung once", 3, x.on());
        Check.due("she brings up 0", 0, x.on());
        Check.due("and 3 again", 3, x.on());
        x.mend(3, 3, 0);
        Check.due("it ends", -2, x.on());
        Check.due("five", 5, x.led(3));
        x.begin(0);
        x.has(0, 1, 0, 0);
        x.has(0, 1, 1, 0);
        Check.due("what is lost is in no mind", -2, x.on());
        x.begin(0);
        Check.due("one more", 3, x.led(0));
        Given.learn(x, 2, 0, 0, 1);
        Check.due("without words", -21, x.on());
        Check.due("in another song", -1, x.begin(100));
        x.line(1, 0);
        Given.learn(x, 2, 1, 2, 0);
        Check.due("in another song", 1, x.begin(100));
        Check.due("a line of its own", -2, x.on());
    }

    private static void led(String name, TuneAndWords x, int singings, int lines, int sticks, int longest, int on) {
        Check.due(name + ": singings", singings, x.led(0));
        Check.due(name + ": lines", lines, x.led(1));
        Check.due(name + ": sticks", sticks, x.led(2));
        Check.due(name + ": longest", longest, x.led(3));
        Check.due(name + ": on", on, x.led(4));
    }

    private static void promise24() {
        TuneAndWords x = Given.known(4);
        Given.law(x, "a");
        led("none", x, 0, 0, 0, 0, -5);
        x.begin(0);
        led("begun", x, 1, 1, 0, 1, 1);
        x.on();
        x.on();
        led("three", x, 1, 3, 0, 3, 3);
        x.on();
        x.on();
        led("ended", x, 1, 4, 0, 4, -5);
        x.begin(2);
        led("again", x, 2, 5, 0, 4, 1);
        x.on();
        x.on();
        x.has(0, 1, 0, 0);
        x.begin(1);
        led("sticks at once", x, 3, 6, 1, 4, -5);
        x.begin(0);
        x.on();
        led("sticks", x, 4, 7, 2, 4, -5);
        Check.due("bad", -1, x.led(5));
        Check.due("bad", -1, x.led(-1));
        x.sing(2, 0);
        x.runUp(0, 0);
        led("thoughts don't count", x, 4, 7, 2, 4, -5);
    }

    private static void promise25And26() {
        TuneAndWords x = Given.known(4);
        Given.law(x, "a+2-k*2");
        Check.due("none", -5, x.back());
        x.begin(0);
        x.on();
        Check.due("kept", 1, x.image());
        x.has(0, 3, 0, 0);
        Given.learn(x, 2, 0, 2, 0);
        x.mend(0, 3, 9);
        x.mend(2, 0, 7);
        x.line(0, 0);
        x.line(2, 0);
        Given.learn(x, 1, 0, 2, 4);
        Given.learn(x, 1, 2, 2, 0);
        Check.due("on", 2, x.on());
        Check.due("it sticks", -23, x.on());
        x.begin(200);
        led("before", x, 2, 4, 1, 3, 1);
        Check.due("singings", 1, x.back());
        led("as it was", x, 1, 2, 0, 2, 2);
        Check.due("had again", 1, x.of(3, 6));
        Check.due("not had any more", 1, x.of(0, 6));
        Check.due("a line that came since", 0, x.of(4, 6));
        Check.due("a line that came since", 0, x.of(200, 7));
        Check.due("bits", 8, x.count(1));
        Check.due("lines stay", 6, x.count(0));
        Check.due("sure stays", 9, x.of(0, 3));
        Check.due("a tune stays", 7, x.of(2, 0));
        Check.due("goes on", 2, x.on());
        Check.due("goes on", 3, x.on());
        // By the law all that was sung once has 0 now, but the next one has more.
        Check.due("ends", -2, x.on());
        x.begin(2);
        x.on();
        Check.due("another one's lines are not taken along", 1, x.back());
        Check.due("behind 1", 2, x.on());
        x.begin(1);
        Check.due("twice", 1, x.back());
        led("as it was", x, 1, 2, 0, 2, 2);
        Check.due("goes on", 2, x.on());
        Check.due("a later one", 1, x.image());
        x.on();
        x.back();
        led("as it was then", x, 1, 3, 0, 3, 3);
    }

    private static void imageWithoutSinging() {
        TuneAndWords x = Given.known(2);
        Check.due("kept", 0, x.image());
        x.begin(0);
        Check.due("laid back", 0, x.back());
        led("none", x, 0, 0, 0, 0, -5);
        Check.due("none is on", -5, x.on());
        Check.due("begun", 1, x.begin(1));
    }

    private static void promise27And28() {
        TuneAndWords x = Given.tunes(1, 2);
        Check.due("none", -5, x.undo());
        Check.due("none", -5, x.redo());
        x.mend(1, 0, 3);
        x.mend(1, 1, 4);
        x.mend(1, 2, 5);
        x.mend(2, 3, 6);
        x.mend(0, 4, 7);
        x.mend(1, 0, 0);
        Check.due("six", 6, x.count(3));
        Check.due("undo", 5, x.undo());
        Check.due("tune", 3, x.of(1, 0));
        Check.due("undo", 4, x.undo());
        Check.due("forgets", 0, x.of(0, 4));
        Check.due("undo", 3, x.undo());
        Check.due("sure", 5, x.of(2, 3));
        Check.due("undo", 2, x.undo());
        Check.due("rhyme", 0, x.of(1, 2));
        Check.due("undo", 1, x.undo());
        Check.due("word", 0, x.of(1, 1));
        Check.due("redo", 4, x.redo());
        Check.due("word", 4, x.of(1, 1));
        Check.due("two", 2, x.count(3));
        Check.due("undo", 1, x.undo());
        Check.due("undo", 0, x.undo());
        Check.due("tune", 2, x.of(1, 0));
        Check.due("none", -5, x.undo());
        for (int left = 5; left >= 0; left--) Check.due("redo", left, x.redo());
        Check.due("none", -5, x.redo());
        Check.due("tune", 0, x.of(1, 0));
        Check.due("forgets", 7, x.of(0, 4));
        x.undo();
        x.undo();
        x.mend(0, 0, 7);
        Check.due("another came behind", -5, x.redo());
        Check.due("five", 5, x.count(3));
        Check.due("undo", 4, x.undo());
        Check.due("tune", 1, x.of(0, 0));
    }

    private static void fortyChanges() {
        TuneAndWords x = Given.tunes(0);
        for (int i = 1; i <= 45; i++) x.mend(0, 0, i % 8);
        Check.due("forty", 40, x.count(3));
        for (int left = 39; left >= 0; left--) Check.due("undo", left, x.undo());
        Check.due("none", -5, x.undo());
        Check.due("five are for good", 5, x.of(0, 0));
        for (int left = 39; left >= 0; left--) {
            Check.due("redo", left, x.redo());
            Check.due("tune", (45 - left) % 8, x.of(0, 0));
        }
        Check.due("none", -5, x.redo());
        x.undo();
        x.mend(0, 1, 1);
        Check.due("forty", 40, x.count(3));
        x.mend(0, 2, 1);
        Check.due("forty", 40, x.count(3));
        Check.due("undo", 39, x.undo());
        Check.due("one", 0, x.redo());
    }

    /** Changes of unlike kinds, the first of which are no longer kept. */
    private static void fortyUnlikeChanges() {
        TuneAndWords x = Given.tunes(0, 0, 0, 0, 0, 0);
        for (int i = 0; i < 60; i++) x.mend(i % 6, i % 3, i / 6 % 7 + 1);
        for (int i = 59; i >= 20; i--) {
            Check.due("of line " + i % 6, i / 6 % 7 + 1, x.of(i % 6, i % 3));
            Check.due("undo", i - 20, x.undo());
            Check.due("of line " + i % 6, i < 6 ? 0 : (i - 6) / 6 % 7 + 1, x.of(i % 6, i % 3));
        }
        Check.due("none", -5, x.undo());
    }

    private static void whatIsNoChange() {
        TuneAndWords x = Given.tunes(1, 2);
        x.mend(0, 0, 5);
        x.mend(0, 0, 6);
        x.undo();
        x.mend(0, 0, 5);
        x.mend(0, 0, 8);
        x.has(0, 0, 0, 1);
        x.line(0, 0);
        Given.law(x, "a");
        x.begin(0);
        x.image();
        x.back();
        Check.due("one change", 1, x.count(3));
        Check.due("nothing came behind", 0, x.redo());
        Check.due("tune", 6, x.of(0, 0));
        Check.due("undo", 1, x.undo());
        Check.due("undo", 0, x.undo());
        Check.due("tune", 1, x.of(0, 0));
        Check.due("what is had stays", 1, x.of(0, 6));
    }
}
