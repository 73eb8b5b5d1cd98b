/** Promises 22 to 28, the sentences that name a boundary. */
final class DeedEdgesTest {
    private static final int MIN = Integer.MIN_VALUE, MAX = Integer.MAX_VALUE;
    private static final House.Made USUAL = House.USUAL;
    private static final House.Made OVER = DeedEdgesTest::over;
    private static final House.Made FORTY = () -> mended(40);

    public static void main(String[] args) {
        beginRanges();
        beginWhileOneIsOn();
        beginSticks();
        onWithoutSinging();
        onEachLine();
        onTeachesNobody();
        onSticksAtEachLine();
        onEnds();
        onGoesRound();
        whatIsLearntAndLost();
        ledRanges();
        ledByStep();
        ledTheLongest();
        imageAndBackCount();
        backWithoutImage();
        backAgainAndAgain();
        backToASinging();
        linesThatCameSince();
        whatAnImageDoesNotKeep();
        undoAndRedoWithoutChanges();
        changesOfEachKind();
        fortyAreKept();
        anotherCameBehind();
        noChanges();
        Check.end("DeedEdgesTest");
    }

    /** The usual one, whose singing is over. */
    private static TuneAndWords over() {
        TuneAndWords x = House.usual();
        for (int i = 0; i < 60 && x.led(4) >= 0; i++) x.on();
        return x;
    }

    /** Twelve LINES of one SINGER, with n CHANGES of several kinds; no singing yet. */
    private static TuneAndWords mended(int n) {
        TuneAndWords x = Given.known(12);
        for (int i = 1; i <= n; i++) {
            int what = i % 5, number = what == 4 ? 0 : what == 3 ? i % 4 : i % 12;
            x.mend(number, what, (x.of(number, what) + 1 + i % 6) % 8);
        }
        return x;
    }

    private static void alike(String what, TuneAndWords due, TuneAndWords x) {
        for (int line = 0; line < 12; line++) {
            for (int part = 0; part < 3; part++) Check.due(what + ", " + part + " of " + line, due.of(line, part), x.of(line, part));
        }
        for (int singer = 0; singer < 4; singer++) Check.due(what + ", SURE", due.of(singer, 3), x.of(singer, 3));
        Check.due(what + ", FORGETS", due.of(0, 4), x.of(0, 4));
    }

    private static TuneAndWords known(int n, String law) {
        TuneAndWords x = Given.known(n);
        Given.law(x, law);
        return x;
    }

    private static void beginRanges() {
        for (int sl : new int[] {-1, 5, 11, 12, 99, 112, 200, 211, 300, -100, MIN, MAX}) {
            House.refused("begin: LINE " + sl, OVER, -1, x -> x.begin(sl));
            House.refused("begin: BAD ahead of STATE", USUAL, -1, x -> x.begin(sl));
        }
        for (int line = 0; line < 12; line++) {
            TuneAndWords x = Given.known(12);
            Check.due("begin: LINE " + line, 1, x.begin(line));
            Check.due("begin: behind the last LINE", -1, x.begin(12));
        }
        TuneAndWords x = OVER.x();
        Check.due("begin: the last LINE of a SONG of twelve", 1, x.begin(111));
        Check.due("begin: it is on", 1, x.led(4));
    }

    /** 22: STATE: a singing is on, be it at a LINE that would be sung or one that STICKS. */
    private static void beginWhileOneIsOn() {
        for (int sl : new int[] {0, 1, 2, 4, 100, 101, 111}) House.refused("begin: one is on", USUAL, -5, x -> x.begin(sl));
        TuneAndWords x = known(2, "1");
        Check.due("begin", 1, x.begin(0));
        for (int i = 1; i < 60; i++) {
            Check.due("begin: one is on, behind " + i, -5, x.begin(i % 2));
            x.on();
        }
        Check.due("begin: one is on, behind 60", -5, x.begin(0));
        Check.due("on: it goes ROUND", -6, x.on());
        Check.due("begin: it is over", 1, x.begin(0));
        Check.due("begin: two singings", 2, x.led(0));
    }

    private static void led(String what, TuneAndWords x, int... due) {
        for (int i = 0; i < 5; i++) Check.due(what + ", led " + i, due[i], x.led(i));
    }

    /** 22: STICKS (0): a singing, which is over at once. */
    private static void beginSticks() {
        TuneAndWords x = Given.tunes(0, 0);
        for (int i = 1; i <= 3; i++) {
            Check.due("begin: STICKS", 0, x.begin(i % 2));
            led("begin: STICKS " + i, x, i, 0, i, 0, -5);
            Check.due("on: it is over", -5, x.on());
        }
        x.has(0, 0, 0, 1);
        Check.due("begin: a tune alone", 0, x.begin(0));
        x.has(0, 0, 0, 0);
        x.has(0, 0, 1, 1);
        Check.due("begin: words alone", 0, x.begin(0));
        x.has(3, 0, 0, 1);
        Check.due("begin: by two", 1, x.begin(0));
        led("begin: sung", x, 6, 1, 5, 1, 1);
    }

    /** 23: STATE: none is on. */
    private static void onWithoutSinging() {
        House.refused("on: none yet", House.NEW, -5, x -> x.on());
        House.refused("on: it is over", OVER, -5, x -> x.on());
        House.refused("on: none yet", FORTY, -5, x -> x.on());
        House.refused("on: it STICKS at once", () -> {
            TuneAndWords x = Given.tunes(0);
            x.begin(0);
            return x;
        }, -5, x -> x.on());
    }

    private static void onEachLine() {
        TuneAndWords x = known(12, "a");
        x.begin(0);
        for (int line = 1; line < 12; line++) {
            Check.due("on: the LINE", line, x.on());
            led("on: LINE " + line, x, 1, line + 1, 0, line + 1, line + 1);
        }
        TuneAndWords y = known(12, "99-k");
        y.begin(0);
        for (int i = 1; i < 60; i++) Check.due("on: round by twelve", i % 12, y.on());
        Check.due("on: ROUND", -6, y.on());
    }

    /** 22, 23: only has() tells who HAS what; singing teaches nobody. */
    private static void onTeachesNobody() {
        TuneAndWords x = known(6, "a");
        for (int line = 0; line < 6; line++) {
            x.has(0, line, line % 2, 0);
            x.has(1 + line % 3, line, line % 2, 1);
        }
        int bits = x.count(1);
        x.begin(0);
        for (int line = 0; line < 6; line++) {
            Check.due("who HAS its tune", line % 2 == 0 ? 2 << line % 3 : 1, x.of(line, 6));
            Check.due("who HAS its words", line % 2 == 1 ? 2 << line % 3 : 1, x.of(line, 7));
            Check.due("the next one", line == 5 ? -2 : line + 1, x.on());
        }
        Check.due("as many bits as before", bits, x.count(1));
    }

    /** 23: -20 less a LINE that STICKS: -20 to -31. */
    private static void onSticksAtEachLine() {
        for (int line = 0; line < 12; line++) {
            for (int what = 0; what < 2; what++) {
                TuneAndWords x = known(12, "!k");
                int first = line == 0 ? 1 : 0;
                x.has(0, line, what, 0);
                Check.due("begin", 1, x.begin(first));
                for (int i = 0; i < 12; i++) {
                    if (i == first || i >= line) continue;
                    Check.due("on: ahead of it", i, x.on());
                }
                int sung = Math.max(1, line);
                led("on: before it STICKS", x, 1, sung, 0, sung, sung);
                Check.due("on: it STICKS", -20 - line, x.on());
                led("on: it STICKS", x, 1, sung, 1, sung, -5);
                Check.due("on: it is over", -5, x.on());
                Check.due("begin: another one", 1, x.begin(first));
            }
        }
    }

    /** 23: NOT: it ENDS. */
    private static void onEnds() {
        for (int line = 0; line < 12; line++) {
            TuneAndWords x = known(12, "0");
            x.begin(line);
            Check.due("on: it ENDS", -2, x.on());
            led("on: it ENDS", x, 1, 1, 0, 1, -5);
            Check.due("on: it is over", -5, x.on());
        }
        TuneAndWords x = known(1, "9");
        x.begin(0);
        Check.due("on: the only LINE", -2, x.on());
    }

    /** 23: -6: it goes ROUND with 60 LINES sung, whatever is had then; ENDS or STICKS with 59. */
    private static void onGoesRound() {
        for (int n = 57; n <= 60; n++) {
            for (int then = 0; then < 3; then++) {
                TuneAndWords x = known(3, "k<25&!a|a");
                for (int what = 0; what < 2; what++) x.has(0, 2, what, 0);
                x.begin(0);
                Given.law(x, "1");
                for (int i = 1; i < n; i++) Check.due("on: by turns", i % 2, x.on());
                if (then == 0) Given.law(x, "0");
                if (then == 1) for (int bit = 0; bit < 4; bit++) x.has(0, bit / 2, bit % 2, 0);
                if (then == 2) x.has(0, n % 2, 0, 0);
                int due = n == 60 ? -6 : then < 2 ? -2 : -20 - n % 2;
                Check.due("on: behind " + n, due, x.on());
                led("on: behind " + n, x, 1, n, n < 60 && then == 2 ? 1 : 0, n, -5);
                Check.due("on: it is over", -5, x.on());
            }
        }
    }

    /** LEARN, LOSE, and what else changes between two LINES, count from the next one on. */
    private static void whatIsLearntAndLost() {
        TuneAndWords x = Given.tunes(0, 0, 0, 0);
        Given.law(x, "a");
        Given.learn(x, 0, 0, 2, 0);
        x.begin(0);
        for (int line = 1; line < 4; line++) {
            Given.learn(x, line, 0, 2, line);
            Given.learn(x, 3, 0, 2, line);
            x.has(0, line - 1, 0, 0);
            x.has(0, line - 1, 1, 0);
            Check.due("on: learnt just now", line, x.on());
        }
        Check.due("on: none behind the last", -2, x.on());
        led("on: four", x, 1, 4, 0, 4, -5);
        TuneAndWords y = known(4, "t");
        y.begin(0);
        y.mend(3, 0, 0);
        Check.due("on: by its new TUNE", 3, y.on());
        y.line(0, 0);
        Given.learn(y, 2, 0, 2, 4);
        y.mend(0, 0, 6);
        Check.due("on: a LINE that came just now", 4, y.on());
        y.mend(3, 0, 6);
        Check.due("on: none any more", -2, y.on());
    }

    private static void ledRanges() {
        for (int what : new int[] {-1, 5, 6, MIN, MAX}) {
            House.refused("led: " + what, USUAL, -1, x -> x.led(what));
            House.refused("led: " + what, OVER, -1, x -> x.led(what));
        }
        for (int what = 0; what < 5; what++) {
            int it = what;
            House.changesNothing("led", USUAL, x -> x.led(it));
            Check.due("led: a new object", what == 4 ? -5 : 0, new TuneAndWords().led(what));
        }
        House.refused("led: none is on", OVER, -5, x -> x.led(4));
    }

    private static void ledByStep() {
        TuneAndWords x = known(3, "a");
        led("none yet", x, 0, 0, 0, 0, -5);
        x.begin(0);
        led("begun", x, 1, 1, 0, 1, 1);
        x.on();
        led("two", x, 1, 2, 0, 2, 2);
        x.on();
        led("three", x, 1, 3, 0, 3, 3);
        x.on();
        led("ENDS", x, 1, 3, 0, 3, -5);
        x.on();
        led("refused", x, 1, 3, 0, 3, -5);
        x.begin(3);
        led("BAD", x, 1, 3, 0, 3, -5);
        x.begin(2);
        x.begin(2);
        led("begun again", x, 2, 4, 0, 3, 1);
    }

    /** 24: the longest singing, the one that is on too. */
    private static void ledTheLongest() {
        TuneAndWords x = known(12, "a");
        for (int first = 11; first >= 0; first--) {
            x.begin(first);
            for (int i = 0; i < 12 - first; i++) {
                Check.due("led: the longest", Math.max(11 - first, i + 1), x.led(3));
                Check.due("led: as far as it is", i + 1, x.led(4));
                x.on();
            }
            Check.due("led: the longest", 12 - first, x.led(3));
        }
        x.begin(5);
        x.on();
        Check.due("led: a shorter one is nothing to it", 12, x.led(3));
        Check.due("led: all LINES", 78 + 2, x.led(1));
        Check.due("led: all singings", 13, x.led(0));
        TuneAndWords y = known(2, "1");
        y.begin(0);
        for (int i = 0; i < 60; i++) y.on();
        led("ROUND", y, 1, 60, 0, 60, -5);
    }

    /** 25, 26: singings. */
    private static void imageAndBackCount() {
        TuneAndWords x = known(2, "0");
        Check.due("image: none yet", 0, x.image());
        for (int i = 1; i < 9; i++) {
            x.begin(0);
            x.on();
            Check.due("image: singings", i, x.image());
            x.begin(1);
            Check.due("led: one more", i + 1, x.led(0));
            Check.due("back: singings", i, x.back());
            Check.due("led: one less", i, x.led(0));
        }
    }

    /** 26: STATE: there is none. */
    private static void backWithoutImage() {
        House.refused("back: no IMAGE", House.NEW, -5, x -> x.back());
        House.refused("back: no IMAGE", FORTY, -5, x -> x.back());
        TuneAndWords x = new TuneAndWords();
        Check.due("image of nothing", 0, x.image());
        Check.due("back to nothing", 0, x.back());
        Check.due("back again", 0, x.back());
        House.Made kept = () -> {
            TuneAndWords y = House.usual();
            y.image();
            return y;
        };
        House.changesNothing("an IMAGE laid back at once", kept, y -> y.image() + y.back());
    }

    private static void backAgainAndAgain() {
        TuneAndWords x = known(4, "a");
        x.begin(1);
        x.on();
        x.image();
        for (int i = 0; i < 5; i++) {
            Check.due("on", 3, x.on());
            if (i % 2 == 0) Check.due("on", -2, x.on());
            x.has(0, i % 4, i % 2, 0);
            x.has(2, i % 4, i % 2, 1);
            Check.due("back", 1, x.back());
            led("as it was", x, 1, 2, 0, 2, 2);
            Check.due("bits", 8, x.count(1));
            for (int line = 0; line < 4; line++) Check.due("SINGER 0 HAS all", 2, x.of(line, 6) + x.of(line, 7));
        }
        x.has(0, 3, 0, 0);
        Check.due("another IMAGE", 1, x.image());
        x.has(0, 3, 0, 1);
        x.back();
        Check.due("the later one counts", 0, x.of(3, 6));
        Check.due("it STICKS as then", -23, x.on());
    }

    private static void backToASinging() {
        TuneAndWords x = known(2, "1");
        x.line(1, 0);
        Given.learn(x, 1, 1, 2, 0);
        x.begin(0);
        for (int i = 1; i < 59; i++) x.on();
        x.image();
        Check.due("the sixtieth", 1, x.on());
        Check.due("ROUND", -6, x.on());
        x.begin(100);
        x.back();
        led("59 again", x, 1, 59, 0, 59, 59);
        Check.due("the sixtieth again", 1, x.on());
        x.image();
        Check.due("ROUND again", -6, x.on());
        x.back();
        led("60 again", x, 1, 60, 0, 60, 60);
        Check.due("ROUND at once", -6, x.on());
        x.image();
        x.begin(100);
        x.back();
        led("none is on", x, 1, 60, 0, 60, -5);
        Check.due("none is on", -5, x.on());
        // Which LINE was sung last comes back, too, and how many STICK.
        TuneAndWords z = known(5, "a");
        z.begin(2);
        z.image();
        for (int i = 0; i < 3; i++) z.on();
        z.has(0, 1, 0, 0);
        z.begin(1);
        z.begin(0);
        Check.due("it STICKS", -21, z.on());
        led("before", z, 3, 4, 2, 3, -5);
        Check.due("back", 1, z.back());
        led("as it was", z, 1, 1, 0, 1, 1);
        Check.due("behind LINE 2", 3, z.on());
        // How often each LINE was sung comes back, too.
        TuneAndWords y = known(3, "2-k");
        y.begin(0);
        for (int i = 0; i < 3; i++) y.on();
        y.image();
        for (int i = 0; i < 3; i++) y.on();
        y.begin(2);
        y.back();
        Check.due("goes on", 1, y.on());
        Check.due("goes on", 2, y.on());
        Check.due("each twice", -2, y.on());
    }

    /** 26: LINES that came since: nobody HAS them. */
    private static void linesThatCameSince() {
        TuneAndWords x = Given.known(11);
        x.image();
        x.line(0, 123);
        x.line(2, 321);
        for (int singer = 0; singer < 4; singer++) {
            Given.learn(x, singer, 0, 2, 11);
            Given.learn(x, singer, 2, 2, 0);
        }
        Check.due("bits of them", 38, x.count(1));
        x.back();
        Check.due("they stay", 13, x.count(0));
        Check.due("TUNE stays", 1, x.of(11, 0));
        Check.due("RHYME stays", 1, x.of(200, 2));
        Check.due("nobody HAS them", 22, x.count(1));
        for (int what = 6; what < 8; what++) Check.due("nobody HAS them", 0, x.of(11, what) + x.of(200, what));
        Check.due("nobody can sing them", 1 << 11, x.runUp(0, 3));
        Check.due("they may be learnt again", 0, x.has(3, 11, 0, 1));
    }

    private static void whatAnImageDoesNotKeep() {
        TuneAndWords x = known(3, "a");
        x.mend(0, 0, 5);
        x.mend(1, 1, 6);
        x.undo();
        x.image();
        x.redo();
        x.mend(2, 2, 7);
        x.mend(0, 3, 9);
        x.mend(0, 4, 12);
        Given.law(x, "1");
        x.feed('7');
        x.body(4);
        x.act(0, 0, 1);
        x.keep(0, 0);
        Given.row(x, 1, 6, 7);
        x.back();
        Check.due("WORD stays", 6, x.of(1, 1));
        Check.due("RHYME stays", 7, x.of(2, 2));
        Check.due("SURE stays", 9, x.of(0, 3));
        Check.due("FORGETS stays", 12, x.of(0, 4));
        Check.due("CHANGES stay", 5, x.count(3));
        Check.due("THE LAW stays", 60, x.sing(0, 0));
        Check.due("THE TAPE stays", 1, x.count(2));
        Check.due("BODIES stay", 1, x.count(4));
        Check.due("THE TRACE stays", 20, x.trace(0));
        Check.due("a SHELF stays", 4, x.taken(0, 0));
        Check.due("a ROW stays", 7, x.element(1, 1));
        Check.due("UNDONE", 4, x.undo());
        Check.due("FORGETS", 0, x.of(0, 4));
    }

    /** 27, 28: STATE: none. */
    private static void undoAndRedoWithoutChanges() {
        House.refused("undo: none", House.NEW, -5, x -> x.undo());
        House.refused("redo: none", House.NEW, -5, x -> x.redo());
        House.refused("redo: nothing undone", FORTY, -5, x -> x.redo());
        House.Made undone = () -> {
            TuneAndWords x = mended(3);
            for (int i = 0; i < 3; i++) x.undo();
            return x;
        };
        House.refused("undo: all undone", undone, -5, x -> x.undo());
        House.Made again = () -> {
            TuneAndWords x = undone.x();
            for (int i = 0; i < 3; i++) x.redo();
            return x;
        };
        House.refused("redo: all done again", again, -5, x -> x.redo());
        House.changesNothing("UNDONE and DONE AGAIN", FORTY, x -> x.undo() + x.redo());
    }

    private static void changesOfEachKind() {
        int[] numbers = {111, 111, 111, 3, 0};
        for (int what = 0; what < 5; what++) {
            TuneAndWords x = new TuneAndWords();
            for (int i = 0; i < 12; i++) x.line(1, 555);
            Check.due("mend", what == 4 ? 0 : 5, x.mend(numbers[what], what, 7));
            Check.due("undo: none may still be", 0, x.undo());
            Check.due("as it was", what == 4 ? 0 : 5, x.of(numbers[what], what));
            Check.due("undo: none", -5, x.undo());
            Check.due("redo: none may still be", 0, x.redo());
            Check.due("as it became", 7, x.of(numbers[what], what));
            Check.due("redo: none", -5, x.redo());
            Check.due("one CHANGE", 1, x.count(3));
        }
    }

    /** 40 at most are kept. */
    private static void fortyAreKept() {
        for (int n = 38; n <= 43; n++) {
            TuneAndWords x = mended(n);
            int kept = Math.min(40, n);
            Check.due("CHANGES of " + n, kept, x.count(3));
            for (int left = kept - 1; left >= 0; left--) {
                Check.due("undo: how many may still be", left, x.undo());
                if (left % 13 == 0) alike("undo: the latest first", mended(n - kept + left), x);
            }
            Check.due("undo: none", -5, x.undo());
            alike("those not kept are for good", mended(n - kept), x);
            for (int left = kept - 1; left >= 0; left--) {
                Check.due("redo: how many may still be", left, x.redo());
                Check.due("CHANGES again", kept - left, x.count(3));
                if (left % 13 == 0) alike("redo: as they came", mended(n - left), x);
            }
            Check.due("redo: none", -5, x.redo());
        }
        // With one undone there is room for another one.
        TuneAndWords x = mended(40);
        x.undo();
        x.mend(0, 3, 9);
        Check.due("forty still", 40, x.count(3));
        for (int i = 0; i < 40; i++) x.undo();
        alike("all undone", mended(0), x);
    }

    /** DONE AGAIN, as long as no other came behind. */
    private static void anotherCameBehind() {
        for (int undone = 1; undone <= 5; undone++) {
            TuneAndWords x = mended(5);
            for (int i = 0; i < undone; i++) x.undo();
            x.mend(1, 3, 9);
            Check.due("redo: another came behind", -5, x.redo());
            Check.due("CHANGES", 6 - undone, x.count(3));
            Check.due("undo", 5 - undone, x.undo());
            alike("undo: the other one", mended(5 - undone), x);
            Check.due("redo: the other one", 0, x.redo());
            Check.due("SURE again", 9, x.of(1, 3));
        }
    }

    /** Telling the same number is none; what SINGERS have is none; what is refused is none. */
    private static void noChanges() {
        TuneAndWords x = mended(4);
        x.undo();
        x.undo();
        x.mend(2, 1, x.of(2, 1));
        x.mend(0, 3, 5);
        x.mend(0, 4, x.of(0, 4));
        x.mend(12, 0, 1);
        x.mend(0, 3, 10);
        x.has(1, 1, 1, 1);
        x.has(0, 1, 1, 0);
        x.line(1, 444);
        x.row(0, 0, 3);
        x.lines(1, 0, 0, 1);
        x.image();
        x.back();
        x.begin(0);
        x.on();
        Given.law(x, "1");
        Check.due("CHANGES still", 2, x.count(3));
        Check.due("redo: still", 1, x.redo());
        Check.due("redo: still", 0, x.redo());
        Check.due("CHANGES", 4, x.count(3));
        for (int left = 3; left >= 0; left--) Check.due("undo", left, x.undo());
        alike("all undone", mended(0), x);
        Check.due("what is had stays", 2, x.of(1, 7));
    }
}
