/** Promises 1 to 7, the sentences that name a boundary: the last value taken, the first one refused. */
final class SongsEdgesTest {
    private static final int MIN = Integer.MIN_VALUE, MAX = Integer.MAX_VALUE;
    private static final House.Made USUAL = House.USUAL;
    private static final House.Made TWELVES = SongsEdgesTest::twelves;
    private static final House.Made EMPTY_ROWS = SongsEdgesTest::emptyRows;
    private static final House.Made ELEVEN = SongsEdgesTest::eleven;
    private static final House.Made FULL_TAPE = SongsEdgesTest::fullTape;

    public static void main(String[] args) {
        looksSeeWhatChanges();
        newObject();
        newObjectsRefusals();
        lineSongs();
        lineTuneWordRhyme();
        lineTwelveAreTaken();
        linesRanges();
        linesFromNothing();
        linesFromNoBytes();
        linesFromBelowZero();
        linesWhereTheRowEnds();
        linesFromFarPlaces();
        linesOneIsNotAsItMayBe();
        linesUntilTheSongIsFull();
        hasRanges();
        hasAsItWas();
        mendRanges();
        mendTheSameNumber();
        mendWhatItWas();
        ofRanges();
        ofWhoHas();
        feedRanges();
        feedUntilFull();
        Check.end("SongsEdgesTest");
    }

    /** All SONGS have twelve LINES. */
    private static TuneAndWords twelves() {
        TuneAndWords x = new TuneAndWords();
        x.row(0, 0, 36);
        for (int song = 0; song < 3; song++) x.lines(song, 0, 0, 12);
        Given.learn(x, 3, 2, 2, 11);
        return x;
    }

    /** On each SHELF a ROW without elements: of bytes on 0 and 5, of the other sorts on 1 to 4. */
    private static TuneAndWords emptyRows() {
        TuneAndWords x = new TuneAndWords();
        for (int shelf = 0; shelf < 6; shelf++) x.row(shelf, shelf % 5, 0);
        return x;
    }

    /** SONG 1 has room for one LINE; a ROW of twelve on SHELF 0. */
    private static TuneAndWords eleven() {
        TuneAndWords x = new TuneAndWords();
        for (int i = 0; i < 11; i++) x.line(1, 0);
        x.row(0, 0, 36);
        for (int i = 0; i < 36; i++) x.put(0, i, i % 8);
        return x;
    }

    /** THE TAPE has 120 bytes, which are a TEXT. */
    private static TuneAndWords fullTape() {
        TuneAndWords x = Given.known(2);
        for (int i = 0; i < 120; i++) x.feed(i % 2 == 0 ? i == 0 ? '-' : '+' : '9');
        return x;
    }

    /** What the tests below rely on when they say that nothing has changed. */
    private static void looksSeeWhatChanges() {
        House.changes("line", USUAL, x -> x.line(0, 0));
        House.changes("lines", USUAL, x -> x.lines(2, 3, 0, 1));
        House.changes("has", USUAL, x -> x.has(3, 111, 1, 1));
        House.changes("has not", USUAL, x -> x.has(3, 4, 1, 0));
        House.changes("mend", USUAL, x -> x.mend(111, 1, 7));
        House.changes("mend sure", USUAL, x -> x.mend(3, 3, 9));
        House.changes("mend there and back", USUAL, x -> x.mend(0, 3, 9) + x.mend(0, 3, 6));
        House.changes("feed", USUAL, x -> x.feed('0'));
        House.changes("law", USUAL, x -> x.law());
        House.changes("begin", USUAL, x -> x.on() + x.on() + x.on() + x.begin(0));
        House.changes("on", USUAL, x -> x.on());
        House.changes("image", USUAL, x -> x.image());
        House.changes("back", USUAL, x -> x.back());
        House.changes("undo", USUAL, x -> x.undo());
        House.changes("redo", USUAL, x -> x.redo());
        House.changes("body", USUAL, x -> x.body(3));
        House.changes("act", USUAL, x -> x.act(2, 3, 9) + x.act(0, 0, 0));
        House.changes("keep", USUAL, x -> x.keep(1, 3));
        House.changes("keep nothing", USUAL, x -> x.keep(1, -1));
        House.changes("row", USUAL, x -> x.row(0, 4, 0));
        House.changes("row of another sort", USUAL, x -> x.row(4, 3, 2));
        House.changes("put", USUAL, x -> x.put(5, 35, 1));
        House.changes("shift", USUAL, x -> x.shift(3, 0, 5, 30, 2));
    }

    /** 1, and "at first": 0 LINES, SURE 5, FORGETS 0, a SHELF holds nothing. */
    private static void newObject() {
        TuneAndWords x = new TuneAndWords();
        for (int song = 0; song < 3; song++) Check.due("0 LINES at first", 0, x.of(song, 5));
        for (int singer = 0; singer < 4; singer++) Check.due("SURE is 5 at first", 5, x.of(singer, 3));
        Check.due("FORGETS is 0 at first", 0, x.of(0, 4));
        for (int shelf = 0; shelf < 6; shelf++) Check.due("a SHELF holds nothing at first", -11, x.taken(shelf, 0));
        for (int what = 0; what < 6; what++) Check.due("none at first, count " + what, 0, x.count(what));
        for (int what = 0; what < 4; what++) Check.due("none at first, led " + what, 0, x.led(what));
        Check.due("no singing is on at first", -5, x.led(4));
        x.line(0, 0);
        x.line(0, 0);
        Check.due("nobody HAS a tune at first", 0, x.of(0, 6));
        Check.due("nobody HAS words at first", 0, x.of(1, 7));
        Check.due("no bits at first", 0, x.count(1));
        Check.due("no CHANGE by LINES", 0, x.count(3));
        Check.due("the constant BAD", -1, TuneAndWords.BAD);
        Check.due("the constant NOT", -2, TuneAndWords.NOT);
        Check.due("the constant FULL", -3, TuneAndWords.FULL);
        Check.due("the constant STATE", -5, TuneAndWords.STATE);
        Check.due("the constant VOID", -2000000000, TuneAndWords.VOID);
    }

    private static void newObjectsRefusals() {
        House.Made none = House.NEW;
        for (int song = 0; song < 3; song++) {
            int sl = 100 * song;
            House.refused("no LINE yet: has", none, -1, x -> x.has(0, sl, 0, 1));
            House.refused("no LINE yet: mend", none, -1, x -> x.mend(sl, 0, 1));
            House.refused("no LINE yet: of", none, -1, x -> x.of(sl, 0));
            House.refused("no LINE yet: sing", none, -1, x -> x.sing(sl, 0));
            House.refused("no LINE yet: sung", none, -1, x -> x.sung(sl, 0, 0));
            House.refused("no LINE yet: begin", none, -1, x -> x.begin(sl));
            House.refused("no LINE yet: mixed", none, -1, x -> x.mixed(sl, sl == 0 ? 1 : 0));
        }
        House.refused("no singing yet", none, -5, x -> x.on());
        House.refused("no IMAGE yet", none, -5, x -> x.back());
        House.refused("no CHANGE yet: undo", none, -5, x -> x.undo());
        House.refused("no CHANGE yet: redo", none, -5, x -> x.redo());
        House.refused("no BODY yet: act", none, 0, x -> x.act(0, 0, 5));
        House.refused("no BODY yet: keep", none, -1, x -> x.keep(0, 0));
        House.refused("no TRACE yet", none, -1, x -> x.trace(0));
        House.refused("nothing on THE TAPE yet", none, -100, x -> x.law());
    }

    /** 2: SONGS 0 .. 2. */
    private static void lineSongs() {
        Check.due("the first SONG", 5, House.usual().line(0, 0));
        Check.due("the last SONG", 0, House.usual().line(2, 0));
        for (int song : new int[] {-1, 3, 100, MIN, MAX}) House.refused("line: SONG " + song, USUAL, -1, x -> x.line(song, 0));
    }

    /** 2: twr is 100 TUNE, 10 WORD and RHYME, 0 .. 7 each. */
    private static void lineTuneWordRhyme() {
        for (int twr = -1000; twr < 2000; twr++) {
            int tune = twr / 100, word = twr / 10 % 10, rhyme = twr % 10;
            boolean may = twr >= 0 && tune < 8 && word < 8 && rhyme < 8;
            TuneAndWords x = new TuneAndWords();
            Check.due("line: twr " + twr, may ? 0 : -1, x.line(1, twr));
            Check.due("line: LINES by twr " + twr, may ? 1 : 0, x.of(1, 5));
            Check.due("line: TUNE of " + twr, may ? tune : -1, x.of(100, 0));
            Check.due("line: WORD of " + twr, may ? word : -1, x.of(100, 1));
            Check.due("line: RHYME of " + twr, may ? rhyme : -1, x.of(100, 2));
        }
        for (int twr : new int[] {-1, 8, 80, 800, MIN, MAX, MAX - 7}) {
            House.refused("line: twr " + twr, USUAL, -1, x -> x.line(0, twr));
        }
    }

    /** 2: LINES 0 .. 11; FULL: 12. */
    private static void lineTwelveAreTaken() {
        for (int song = 0; song < 3; song++) {
            TuneAndWords x = new TuneAndWords();
            for (int line = 0; line < 12; line++) {
                Check.due("line: the LINE's number", line, x.line(song, line % 8));
                Check.due("line: LINES of it", line + 1, x.of(song, 5));
            }
            Check.due("line: the 13th", -3, x.line(song, 7));
            Check.due("line: still twelve", 12, x.count(0));
            Check.due("line: the 12th stays", 3, x.of(100 * song + 11, 2));
            Check.due("line: no 13th", -1, x.of(100 * song + 12, 2));
        }
        TuneAndWords all = new TuneAndWords();
        for (int i = 0; i < 36; i++) Check.due("line: twelve of each", i / 3, all.line(i % 3, 100 * (i / 3 % 8)));
        Check.due("line: thirty-six", 36, all.count(0));
        House.refused("line: FULL", USUAL, -3, x -> x.line(1, 777));
        for (int song = 0; song < 3; song++) {
            int it = song;
            House.refused("line: FULL", TWELVES, -3, x -> x.line(it, 0));
            House.refused("line: BAD ahead of FULL", TWELVES, -1, x -> x.line(it, 8));
        }
        House.refused("line: BAD SONG, all are FULL", TWELVES, -1, x -> x.line(3, 0));
        Check.due("line: another SONG isn't FULL", 0, House.usual().line(2, 777));
    }

    /** 3: a SONG, a SHELF, n 1 .. 12. */
    private static void linesRanges() {
        Check.due("lines: n 1", 1, House.usual().lines(2, 5, 0, 1));
        Check.due("lines: n 12", 12, House.usual().lines(2, 5, 0, 12));
        Check.due("lines: the first SONG", 1, House.usual().lines(0, 5, 0, 1));
        Check.due("lines: the last SHELF", 1, House.usual().lines(2, 5, 33, 1));
        TuneAndWords first = House.usual();
        first.row(0, 0, 3);
        Check.due("lines: the first SHELF", 1, first.lines(2, 0, 0, 1));
        for (int n : new int[] {0, 13, -1, 14, MIN, MAX}) House.refused("lines: n " + n, USUAL, -1, x -> x.lines(2, 5, 0, n));
        for (int song : new int[] {-1, 3, MIN, MAX}) House.refused("lines: SONG " + song, USUAL, -1, x -> x.lines(song, 5, 0, 1));
        for (int shelf : new int[] {-1, 6, MIN, MAX}) House.refused("lines: SHELF " + shelf, USUAL, -1, x -> x.lines(2, shelf, 0, 1));
        House.refused("lines: BAD ahead of -12", USUAL, -1, x -> x.lines(2, 1, 0, 13));
        House.refused("lines: BAD ahead of -12", USUAL, -1, x -> x.lines(3, 2, 0, 1));
        House.refused("lines: BAD ahead of the 0", USUAL, -1, x -> x.lines(2, 5, -1, 0));
        House.refused("lines: BAD ahead of nothing", USUAL, -1, x -> x.lines(2, 0, 0, 0));
    }

    /** 3: a SHELF that holds nothing is missing: 0. */
    private static void linesFromNothing() {
        for (int i : new int[] {0, 1, 59, 60, -1, MIN, MAX}) {
            House.refused("lines: a SHELF that holds nothing", USUAL, 0, x -> x.lines(2, 0, i, 12));
        }
        House.refused("lines: a SHELF that holds nothing, a SONG that is FULL", USUAL, 0, x -> x.lines(1, 0, 0, 1));
        TuneAndWords x = House.usual();
        x.keep(5, -1);
        Check.due("lines: a ROW that is gone", 0, x.lines(2, 5, 0, 1));
    }

    /** 3: -12: no ROW of bytes. */
    private static void linesFromNoBytes() {
        for (int i : new int[] {0, -1, 3, 60, MIN, MAX}) {
            House.refused("lines: a BODY", USUAL, -12, x -> x.lines(2, 1, i, 1));
            House.refused("lines: shorts", USUAL, -12, x -> x.lines(2, 2, i, 1));
            House.refused("lines: booleans", USUAL, -12, x -> x.lines(2, 4, i, 1));
            for (int shelf = 1; shelf < 5; shelf++) {
                int it = shelf;
                House.refused("lines: no bytes, no elements, sort " + shelf, EMPTY_ROWS, -12, x -> x.lines(2, it, i, 1));
            }
            House.refused("lines: bytes, no elements", EMPTY_ROWS, 0, x -> x.lines(2, 5, i, 1));
        }
        House.refused("lines: -12, and the SONG is FULL", USUAL, -12, x -> x.lines(1, 2, 0, 1));
        for (int sort = 0; sort < 5; sort++) {
            TuneAndWords x = new TuneAndWords();
            x.row(0, sort, 60);
            Check.due("lines: of sort " + sort, sort == 0 ? 12 : -12, x.lines(0, 0, 0, 12));
        }
    }

    /** 3: 0 with i below 0. */
    private static void linesFromBelowZero() {
        for (int i : new int[] {-1, -2, -3, -36, MIN, MIN + 1, MIN + 36}) {
            House.refused("lines: i " + i, USUAL, 0, x -> x.lines(2, 5, i, 12));
            House.refused("lines: i " + i, USUAL, 0, x -> x.lines(0, 5, i, 1));
        }
        Check.due("lines: i 0", 12, House.usual().lines(2, 5, 0, 12));
    }

    /** 3: the ROW ends (within a three, too): those ahead came. */
    private static void linesWhereTheRowEnds() {
        for (int size = 0; size <= 60; size++) {
            for (int i = 0; i < 64; i++) {
                TuneAndWords x = new TuneAndWords();
                x.row(0, 0, size);
                for (int n = 1; n < 4; n++) {
                    int due = Math.max(0, Math.min(n, (size - i) / 3));
                    Check.due("lines: " + n + " from " + i + " of a ROW of " + size, due, x.lines(0, 0, i, n));
                }
                int due = Math.max(0, Math.min(12, (size - i) / 3));
                Check.due("lines: 12 from " + i + " of a ROW of " + size, due, x.lines(1, 0, i, 12));
                Check.due("lines: so many are there", due, x.of(1, 5));
            }
        }
        for (int i : new int[] {34, 35, 36, 37, 59, 60}) {
            House.refused("lines: less than a three is left", USUAL, 0, x -> x.lines(2, 5, i, 12));
        }
        House.refused("lines: two of a three are left", USUAL, 0, x -> x.lines(2, 3, 9, 1));
    }

    private static void linesFromFarPlaces() {
        for (int i = 0; i < 40; i++) {
            int far = MAX - i;
            House.refused("lines: i that would wrap", USUAL, 0, x -> x.lines(2, 5, far, 12));
        }
    }

    /** 3: one is not as it may be: those ahead came. */
    private static void linesOneIsNotAsItMayBe() {
        for (int place = 0; place < 36; place++) {
            for (int v = -128; v < 128; v += v < -2 || v > 9 ? 9 : 1) {
                TuneAndWords x = new TuneAndWords();
                x.row(0, 0, 36);
                x.put(0, place, v);
                int due = v >= 0 && v <= 7 ? 12 : place / 3;
                Check.due("lines: " + v + " at place " + place, due, x.lines(0, 0, 0, 12));
                Check.due("lines: those ahead came", due, x.of(0, 5));
            }
        }
        TuneAndWords x = new TuneAndWords();
        Given.row(x, 0, 7, 0, 7, 0, 7, 0, 256 + 5, 512, 8, 1, 1, 1);
        Check.due("lines: two of four", 2, x.lines(0, 0, 0, 4));
        Check.due("lines: its TUNE", 7, x.of(0, 0));
        Check.due("lines: its WORD", 7, x.of(1, 1));
        Check.due("lines: none of the third", 2, x.count(0));
        House.refused("lines: one that's not as it may be at first", ELEVEN, 0, y -> {
            y.put(0, 1, 8);
            long came = y.lines(1, 0, 0, 12);
            y.put(0, 1, 1);
            return came;
        });
    }

    /** 3: the SONG is FULL: those ahead came. */
    private static void linesUntilTheSongIsFull() {
        TuneAndWords x = ELEVEN.x();
        Check.due("lines: one has room", 1, x.lines(1, 0, 3, 12));
        Check.due("lines: TUNE of the 12th", 3, x.of(111, 0));
        Check.due("lines: WORD of the 12th", 4, x.of(111, 1));
        Check.due("lines: RHYME of the 12th", 5, x.of(111, 2));
        Check.due("lines: none has room", 0, x.lines(1, 0, 3, 12));
        Check.due("lines: twelve", 12, x.count(0));
        Check.due("lines: exactly as many as there is room for", 1, ELEVEN.x().lines(1, 0, 0, 1));
        for (int n = 1; n <= 12; n += 11) {
            int it = n;
            House.refused("lines: FULL, " + n, TWELVES, 0, y -> y.lines(2, 0, 0, it));
        }
        for (int had = 0; had <= 12; had++) {
            TuneAndWords y = new TuneAndWords();
            for (int i = 0; i < had; i++) y.line(0, 0);
            y.row(0, 0, 60);
            Check.due("lines: behind " + had, 12 - had, y.lines(0, 0, 0, 12));
        }
    }

    private static final int[] NO_LINES = {-1, 5, 6, 11, 12, 99, 112, 113, 199, 200, 211, 300, 400, -100, -101, MIN, MAX};

    /** 4: SINGERS 0 .. 3, a LINE that is there, what 0 or 1, v 0 or 1. */
    private static void hasRanges() {
        for (int singer = 0; singer < 4; singer++) {
            TuneAndWords x = House.usual();
            x.has(singer, 104, 0, 1);
            Check.due("has: SINGER " + singer, 1 << singer, x.of(104, 6));
        }
        for (int singer : new int[] {-1, 4, MIN, MAX}) House.refused("has: SINGER " + singer, USUAL, -1, x -> x.has(singer, 0, 0, 1));
        for (int sl : new int[] {0, 4, 100, 111}) Check.due("has: LINE " + sl, sl == 4 ? 1 : 0, House.usual().has(3, sl, 0, 1));
        for (int sl : NO_LINES) {
            for (int v = 0; v < 2; v++) {
                int it = v;
                House.refused("has: LINE " + sl, USUAL, -1, x -> x.has(1, sl, 1, it));
            }
        }
        Check.due("has: the last LINE of all", 1, TWELVES.x().has(3, 211, 1, 1));
        House.refused("has: behind the last LINE of all", TWELVES, -1, x -> x.has(3, 212, 1, 1));
        House.refused("has: ahead of the first LINE of all", TWELVES, -1, x -> x.has(3, -1, 1, 1));
        for (int what : new int[] {-1, 2, MIN, MAX}) House.refused("has: what " + what, USUAL, -1, x -> x.has(0, 0, what, 1));
        for (int v : new int[] {-1, 2, MIN, MAX}) House.refused("has: v " + v, USUAL, -1, x -> x.has(2, 3, 0, v));
    }

    /** 4: as it was; and no CHANGE to be undone. */
    private static void hasAsItWas() {
        for (int what = 0; what < 2; what++) {
            TuneAndWords x = twelves();
            Check.due("has: lacked and lacks", 0, x.has(2, 111, what, 0));
            Check.due("has: lacked and gets it", 0, x.has(2, 111, what, 1));
            Check.due("has: had and has", 1, x.has(2, 111, what, 1));
            Check.due("has: the other one is not had", 0, x.of(111, 7 - what));
            Check.due("has: one bit more", 3, x.count(1));
            Check.due("has: had and loses it", 1, x.has(2, 111, what, 0));
            Check.due("has: it's gone", 0, x.of(111, 6 + what));
            Check.due("has: no CHANGE", 0, x.count(3));
        }
        House.changesNothing("has: what is had already", USUAL, x -> x.has(0, 0, 0, 1));
        House.changesNothing("has: what is lacked already", USUAL, x -> x.has(0, 4, 0, 0));
    }

    private static int most(int what) {
        return what == 3 ? 9 : what == 4 ? 12 : 7;
    }

    /** 5: 0 .. 7 each, SURE 0 .. 9, FORGETS 0 .. 12; number 0 for FORGETS. */
    private static void mendRanges() {
        for (int w = 0; w < 5; w++) {
            int what = w, number = w < 3 ? 111 : w == 3 ? 3 : 0;
            for (int v = 0; v <= most(what); v++) {
                TuneAndWords x = House.usual();
                x.mend(number, what, v);
                Check.due("mend: " + what + " becomes " + v, v, x.of(number, what));
            }
            for (int v : new int[] {-1, most(what) + 1, MIN, MAX}) {
                House.refused("mend: " + what + " to " + v, USUAL, -1, x -> x.mend(number, what, v));
            }
        }
        for (int sl : NO_LINES) {
            for (int what = 0; what < 3; what++) {
                int it = what;
                House.refused("mend: LINE " + sl, USUAL, -1, x -> x.mend(sl, it, 1));
            }
        }
        Check.due("mend: the last LINE of all", 0, TWELVES.x().mend(211, 2, 7));
        House.refused("mend: behind the last LINE of all", TWELVES, -1, x -> x.mend(212, 2, 7));
        Check.due("mend: the first SINGER", 6, House.usual().mend(0, 3, 0));
        for (int singer : new int[] {-1, 4, 100, MIN, MAX}) House.refused("mend: SINGER " + singer, USUAL, -1, x -> x.mend(singer, 3, 9));
        for (int number : new int[] {-1, 1, 100, MIN, MAX}) House.refused("mend: FORGETS of " + number, USUAL, -1, x -> x.mend(number, 4, 9));
        for (int what : new int[] {-1, 5, 6, 7, MIN, MAX}) House.refused("mend: what " + what, USUAL, -1, x -> x.mend(0, what, 1));
    }

    /** 5, 27: telling the same number is none: what was undone can still be done again. */
    private static void mendTheSameNumber() {
        for (int sl = 0; sl < 5; sl++) {
            for (int what = 0; what < 3; what++) {
                int it = what, line = sl;
                House.changesNothing("mend: the same number", USUAL, x -> x.mend(line, it, x.of(line, it)));
            }
        }
        House.changesNothing("mend: as SURE as before", USUAL, x -> x.mend(0, 3, 6));
        House.changesNothing("mend: FORGETS as before", USUAL, x -> x.mend(0, 4, 0));
    }

    private static void mendWhatItWas() {
        TuneAndWords x = House.usual();
        Check.due("mend: TUNE was", 5, x.mend(3, 0, 0));
        Check.due("mend: TUNE was", 0, x.mend(3, 0, 0));
        Check.due("mend: WORD was", 6, x.mend(3, 1, 7));
        Check.due("mend: RHYME was", 7, x.mend(3, 2, 0));
        Check.due("mend: SURE was", 5, x.mend(3, 3, 9));
        Check.due("mend: SURE was", 9, x.mend(3, 3, 0));
        Check.due("mend: FORGETS was", 0, x.mend(0, 4, 12));
        Check.due("mend: FORGETS was", 12, x.mend(0, 4, 1));
        Check.due("mend: others stay, TUNE", 5, x.of(4, 0));
        Check.due("mend: others stay, SURE", 6, x.of(0, 3));
        for (int sl : new int[] {0, 100, 103, 111}) {
            for (int what = 0; what < 3; what++) Check.due("mend: others stay", House.usual().of(sl, what), x.of(sl, what));
        }
    }

    /** 6: of what is not there BAD. */
    private static void ofRanges() {
        for (int sl : NO_LINES) {
            for (int what = 0; what < 8; what += what == 2 ? 4 : 1) {
                int it = what;
                House.refused("of: LINE " + sl + ", " + what, USUAL, -1, x -> x.of(sl, it));
            }
        }
        for (int number : new int[] {-1, 4, 100, MIN, MAX}) House.refused("of: SINGER " + number, USUAL, -1, x -> x.of(number, 3));
        for (int number : new int[] {-1, 1, 100, MIN, MAX}) House.refused("of: FORGETS of " + number, USUAL, -1, x -> x.of(number, 4));
        for (int number : new int[] {-1, 3, 100, MIN, MAX}) House.refused("of: SONG " + number, USUAL, -1, x -> x.of(number, 5));
        for (int what : new int[] {-1, 8, MIN, MAX}) House.refused("of: what " + what, USUAL, -1, x -> x.of(0, what));
        TuneAndWords x = House.usual();
        Check.due("of: the last SONG", 0, x.of(2, 5));
        Check.due("of: a SONG of twelve", 12, x.of(1, 5));
        Check.due("of: the first SINGER", 6, x.of(0, 3));
        Check.due("of: the last SINGER", 5, x.of(3, 3));
        Check.due("of: the last LINE", 5, x.of(4, 0));
        Check.due("of: the last LINE", 4, x.of(4, 1));
        Check.due("of: the last LINE", 5, x.of(4, 2));
        House.changesNothing("of", USUAL, y -> y.of(4, 0) + y.of(0, 3) + y.of(0, 4) + y.of(0, 5) + y.of(0, 6) + y.of(0, 7));
    }

    /** 6: bits: none, each, all. */
    private static void ofWhoHas() {
        TuneAndWords x = twelves();
        for (int what = 0; what < 2; what++) {
            Check.due("of: nobody", 0, x.of(5, 6 + what));
            for (int singer = 3; singer >= 0; singer--) {
                x.has(singer, 5, what, 1);
                Check.due("of: from SINGER " + singer + " on", 16 - (1 << singer), x.of(5, 6 + what));
            }
            Check.due("of: not of another LINE", 0, x.of(4, 6 + what) + x.of(6, 6 + what) + x.of(105, 6 + what));
        }
        Check.due("of: the last LINE of all, tune", 8, x.of(211, 6));
        Check.due("of: the last LINE of all, words", 8, x.of(211, 7));
    }

    /** 7: a byte is 0 .. 255. */
    private static void feedRanges() {
        for (int letter = 0; letter < 256; letter++) {
            Check.due("feed: " + letter, 8, House.usual().feed(letter));
        }
        for (int letter : new int[] {-1, 256, -128, 257, 353, MIN, MAX}) {
            House.refused("feed: " + letter, USUAL, -1, x -> x.feed(letter));
            House.refused("feed: BAD ahead of FULL", FULL_TAPE, -1, x -> x.feed(letter));
        }
    }

    /** 7: FULL (120). */
    private static void feedUntilFull() {
        TuneAndWords x = new TuneAndWords();
        for (int i = 1; i <= 120; i++) {
            Check.due("feed: how many it has", i, x.feed('!'));
            Check.due("feed: how many it has", i, x.count(2));
        }
        Check.due("feed: the 121st", -3, x.feed('!'));
        Check.due("feed: 120 still", 120, x.count(2));
        for (int letter : new int[] {0, '9', 255}) House.refused("feed: FULL", FULL_TAPE, -3, y -> y.feed(letter));
        TuneAndWords y = FULL_TAPE.x();
        Check.due("feed: the 120 are a text", 1, y.law());
        Check.due("feed: there is room again", 1, y.feed('9'));
    }
}
