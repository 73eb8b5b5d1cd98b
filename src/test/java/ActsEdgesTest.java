/** Promises 29 to 38, the sentences that name a boundary. */
final class ActsEdgesTest {
    private static final int MIN = Integer.MIN_VALUE, MAX = Integer.MAX_VALUE;
    private static final int[] NO_SHELVES = {-1, 6, 7, 100, MIN, MAX};
    private static final House.Made USUAL = House.USUAL;
    private static final House.Made FULL = ActsEdgesTest::fifty;
    private static final House.Made ROWS = ActsEdgesTest::rows;

    public static void main(String[] args) {
        bodyRanges();
        bodyFifty();
        actRanges();
        actNoTraceThen();
        actWrapsAround();
        actByItsNumber();
        traceRanges();
        traceOfTheLatest();
        keepRanges();
        keepInsteadOfARow();
        rowRanges();
        rowSizes();
        rowZeroAtFirst();
        putRanges();
        putPlaces();
        putLowestBits();
        elementRanges();
        shiftRanges();
        shiftNothingOrUnlike();
        shiftPlaces();
        shiftOverItself();
        takenRanges();
        takenUnder();
        countRanges();
        countUpTo();
        Check.end("ActsEdgesTest");
    }

    /** Fifty BODIES, of KINDS by turns. */
    private static TuneAndWords fifty() {
        TuneAndWords x = new TuneAndWords();
        for (int i = 0; i < 50; i++) x.body(i % 8);
        x.act(5, 3, 1);
        return x;
    }

    /** SHELF 0 a ROW of five bytes, 1 of three, 2 of five ints, 3 a BODY, 4 nothing, 5 no bytes at all. */
    private static TuneAndWords rows() {
        TuneAndWords x = new TuneAndWords();
        x.body(6);
        Given.row(x, 0, 1, 2, 3, 4, 5);
        Given.row(x, 1, 6, 7, 8);
        x.row(2, 2, 5);
        x.keep(3, 0);
        x.row(5, 0, 0);
        return x;
    }

    private static void bodyRanges() {
        for (int kind = 0; kind < 8; kind++) {
            TuneAndWords x = House.usual();
            Check.due("body: KIND " + kind, 8, x.body(kind));
            x.keep(0, 8);
            Check.due("body: its KIND", kind, x.taken(0, 0));
        }
        for (int kind : new int[] {-1, 8, 9, MIN, MAX}) {
            House.refused("body: KIND " + kind, USUAL, -1, x -> x.body(kind));
            House.refused("body: BAD ahead of FULL", FULL, -1, x -> x.body(kind));
        }
    }

    /** 29: BODIES 0 .. 49. */
    private static void bodyFifty() {
        TuneAndWords x = new TuneAndWords();
        for (int i = 0; i < 50; i++) {
            Check.due("keep: not yet", -1, x.keep(0, i));
            Check.due("body: its number", i, x.body(7 - i % 8));
            Check.due("keep: it is there", 1, x.keep(0, i));
            Check.due("body: how many", i + 1, x.count(4));
        }
        for (int kind = 0; kind < 8; kind++) {
            int it = kind;
            House.refused("body: FULL", FULL, -3, y -> y.body(it));
        }
        Check.due("body: FULL", -3, x.body(0));
        Check.due("body: fifty", 50, x.count(4));
        Check.due("keep: no 51st", -1, x.keep(0, 50));
        Check.due("act: no 51st", 0, x.act(50, 2, 0));
        Check.due("act: the 50th", 49, x.act(49, 2, 0));
    }

    private static final int[] NO_BODIES = {-1, 8, 9, 49, 50, MIN, MAX}, NO_ACTS = {-1, 4, 5, 10, MIN, MAX};

    private static void actRanges() {
        for (int body : NO_BODIES) {
            for (int act = 0; act < 4; act++) {
                Check.due("act: BODY " + body, 0, House.usual().act(body, act, 5));
            }
        }
        for (int act : NO_ACTS) {
            for (int body = 0; body < 8; body++) Check.due("act: ACT " + act, 0, House.usual().act(body, act, 5));
        }
        int[] answers = {6, 12, 4, 12}, ran = {1, 2, 1, 4}, first = {1, 10, 11, 2};
        for (int act = 0; act < 4; act++) {
            TuneAndWords x = new TuneAndWords();
            Check.due("act: no BODY yet", 0, x.act(0, act, 5));
            x.body(0);
            x.body(0);
            Check.due("act: " + act, answers[act], x.act(1, act, 5));
            Check.due("act: how many ran", ran[act], x.count(5));
            Check.due("act: the first that ran", first[act], x.trace(0));
        }
    }

    /** 30: 0, and no TRACE then: no such BODY, ACT; all else stays. */
    private static void actNoTraceThen() {
        House.Made untraced = () -> {
            TuneAndWords x = House.usual();
            x.act(0, -1, 0);
            return x;
        };
        Check.due("no TRACE", -1, untraced.x().trace(0));
        for (int body : NO_BODIES) {
            TuneAndWords x = House.usual();
            Check.due("ten ran", 10, x.count(5));
            Check.due("act: no such BODY", 0, x.act(body, 3, 9));
            for (int i = 0; i < 24; i++) Check.due("no TRACE then", -1, x.trace(i));
            Check.due("none ran", 0, x.count(5));
            House.refused("act: no such BODY", untraced, 0, y -> y.act(body, 3, 9));
        }
        for (int act : NO_ACTS) {
            TuneAndWords x = House.usual();
            Check.due("act: no such ACT", 0, x.act(2, act, 9));
            for (int i = 0; i < 24; i++) Check.due("no TRACE then", -1, x.trace(i));
            Check.due("none ran", 0, x.count(5));
            House.refused("act: no such ACT", untraced, 0, y -> y.act(2, act, 9));
            House.refused("act: no such BODY, no such ACT", untraced, 0, y -> y.act(8, act, 9));
        }
        House.changesNothing("act: the same again", USUAL, x -> x.act(2, 3, 9));
    }

    /** 30: x (an int that wraps). */
    private static void actWrapsAround() {
        for (int x : new int[] {MIN, MIN + 1, -1, 0, 1, MAX - 1, MAX, 1 << 30, -(1 << 30), 1431655766}) {
            TuneAndWords all = new TuneAndWords();
            for (int kind = 0; kind < 8; kind++) all.body(kind);
            Check.due("SINGING starts " + x, x + 0, all.act(0, 0, x));
            Check.due("TUNED starts " + x, x + 1 + 3, all.act(1, 0, x));
            Check.due("WHOLE starts " + x, (x + 6) * 2, all.act(6, 0, x));
            Check.due("PSALM starts " + x, (x + 7) * 2 - 1, all.act(7, 0, x));
            Check.due("SINGING hums " + x, x * 2, all.act(0, 1, x));
            Check.due("TUNED hums " + x, (x + 4) * 2, all.act(1, 1, x));
            Check.due("WORDED hums " + x, -((x + 2) * 2), all.act(2, 1, x));
            Check.due("RHYMED hums " + x, -((x + 1 + 3) * 2), all.act(3, 1, x));
            Check.due("PSALM hums " + x, ((x + 7) * 2 - 1) * 2 + (2 ^ 7), all.act(7, 1, x));
            Check.due("SINGING says " + x, x ^ 0, all.act(0, 2, x));
            Check.due("RHYMED says " + x, (x ^ 3) * 3, all.act(3, 2, x));
            Check.due("STUCK says " + x, (x ^ 5) * 3 - (2 + 5), all.act(5, 2, x));
            Check.due("SINGING tells " + x, x * 2 - 1, all.act(0, 3, x));
            Check.due("ROUND tells " + x, (x + 4 + 3) * 2 - (1 ^ 4) ^ 5, all.act(4, 3, x));
            Check.due("STUCK tells " + x, -((x + 1 + 5) * 2) - ((1 ^ 5) * 3 - 7) + 1, all.act(5, 3, x));
        }
    }

    /** 30: n its number, from 0 to 49. */
    private static void actByItsNumber() {
        TuneAndWords x = FULL.x();
        for (int n = 0; n < 50; n++) {
            Check.due("starts by its number", n % 8 == 1 || n % 8 == 4 ? n + 3 : n % 8 == 6 ? 2 * n : n % 8 == 7 ? 2 * n - 1 : n,
                    x.act(n, 0, 0));
            Check.due("says by its number", n % 8 == 3 ? 3 * n : n % 8 == 5 ? 3 * n - 2 - n : n, x.act(n, 2, 0));
        }
    }

    private static void traceRanges() {
        for (int i : new int[] {-1, 10, 11, 23, 24, 25, MIN, MAX}) House.refused("trace: " + i, USUAL, -1, x -> x.trace(i));
        for (int i = 0; i < 10; i++) {
            int it = i;
            House.changesNothing("trace", USUAL, x -> x.trace(it));
            Check.due("trace: " + i, new int[] {61, 2, 41, 30, 10, 1, 60, 40, 11, 1}[i], House.usual().trace(i));
        }
        for (int i = -1; i < 26; i++) Check.due("trace: none yet", -1, new TuneAndWords().trace(i));
    }

    /** 31: of the latest act() alone. */
    private static void traceOfTheLatest() {
        TuneAndWords x = FULL.x();
        int[][] due = {{1}, {81, 70, 1}, {60, 40, 11, 1}, {2, 10, 1, 11}, {11}, {50, 2, 10, 20, 1, 11},
            {2, 80, 10, 81, 70, 1, 11, 11}};
        int[][] acts = {{0, 0}, {7, 0}, {5, 2}, {0, 3}, {0, 2}, {4, 3}, {7, 3}};
        for (int i = 0; i < acts.length; i++) {
            x.act(acts[i][0], acts[i][1], 3);
            Check.due("how many ran", due[i].length, x.count(5));
            for (int j = 0; j < 24; j++) Check.due("trace: " + j, j < due[i].length ? due[i][j] : -1, x.trace(j));
        }
        x.body(0);
        x.keep(0, 0);
        x.trace(99);
        Check.due("trace: stays until the next act", 2, x.trace(0));
    }

    private static void keepRanges() {
        for (int shelf : NO_SHELVES) {
            for (int body = -2; body < 2; body++) {
                int it = body;
                House.refused("keep: SHELF " + shelf, USUAL, -1, x -> x.keep(shelf, it));
            }
        }
        for (int shelf = 0; shelf < 6; shelf++) {
            int it = shelf;
            for (int body : new int[] {-2, 8, 9, 50, MIN, MAX}) House.refused("keep: BODY " + body, USUAL, -1, x -> x.keep(it, body));
            TuneAndWords x = House.usual();
            Check.due("keep: the last BODY", 1, x.keep(shelf, 7));
            Check.due("keep: its KIND", 0, x.taken(shelf, 0));
            Check.due("keep: the first BODY", 1, x.keep(shelf, 0));
            Check.due("keep: its KIND", 7, x.taken(shelf, 0));
            Check.due("keep: nothing", 1, x.keep(shelf, -1));
            Check.due("keep: nothing is there", -11, x.taken(shelf, 0));
            Check.due("keep: nothing again", 1, x.keep(shelf, -1));
        }
        House.refused("keep: no BODIES", House.NEW, -1, x -> x.keep(0, 0));
        House.refused("keep: nothing where nothing is", USUAL, 1, x -> x.keep(0, -1));
        Check.due("keep: the 50th BODY", 1, FULL.x().keep(5, 49));
        House.refused("keep: the 51st BODY", FULL, -1, x -> x.keep(5, 50));
    }

    private static void keepInsteadOfARow() {
        TuneAndWords x = ROWS.x();
        x.keep(0, 0);
        Check.due("the ROW is gone", Long.MIN_VALUE, x.element(0, 0));
        Check.due("the ROW is gone", -12, x.put(0, 0, 1));
        x.keep(0, -1);
        Check.due("the BODY is gone", -11, x.put(0, 0, 1));
        x.row(0, 0, 5);
        Check.due("a new ROW", 0, x.element(0, 0));
        Check.due("the BODY is gone", -12, x.taken(0, 6));
        Check.due("the BODY is kept elsewhere", 6, x.taken(3, 6));
        for (int sort = 0; sort < 5; sort++) {
            TuneAndWords y = House.usual();
            Check.due("a ROW where BODY 7 was", 3, y.keep(0, 7) + y.row(0, sort, 2) + y.put(0, 1, 1));
            Check.due("the ROW's element", 1, y.element(0, 1));
            Check.due("nothing where a ROW was", 1, y.keep(0, -1));
            Check.due("the ROW is gone", Long.MIN_VALUE, y.element(0, 1));
            Check.due("nothing is there", -11, y.put(0, 1, 1));
            Check.due("nothing is there", -11, y.taken(0, 0));
        }
    }

    private static void rowRanges() {
        for (int shelf : NO_SHELVES) {
            House.refused("row: SHELF " + shelf, USUAL, -1, x -> x.row(shelf, 0, 1));
            House.refused("row: BAD SHELF ahead of -14", USUAL, -1, x -> x.row(shelf, 0, -1));
        }
        for (int shelf = 0; shelf < 6; shelf++) {
            int it = shelf;
            for (int sort : new int[] {-1, 5, 6, MIN, MAX}) {
                House.refused("row: sort " + sort, USUAL, -1, x -> x.row(it, sort, 1));
                House.refused("row: BAD sort ahead of -14", USUAL, -1, x -> x.row(it, sort, -1));
            }
            for (int n : new int[] {61, 62, 1000, MAX}) House.refused("row: n " + n, USUAL, -1, x -> x.row(it, 0, n));
            for (int n : new int[] {-1, -2, -60, -61, MIN, MIN + 1}) House.refused("row: n " + n, USUAL, -14, x -> x.row(it, 4, n));
        }
    }

    /** 33: of 0 .. 60 elements. */
    private static void rowSizes() {
        for (int sort = 0; sort < 5; sort++) {
            for (int n = 0; n <= 60; n++) {
                TuneAndWords x = new TuneAndWords();
                Check.due("row", 1, x.row(5 - sort, sort, n));
                if (n > 0) Check.due("row: its last place", 1, x.put(5 - sort, n - 1, 1));
                Check.due("row: behind its last place", -13, x.put(5 - sort, n, 1));
                Check.due("row: behind its last place", Long.MIN_VALUE, x.element(5 - sort, n));
                if (n > 0) Check.due("row: its last place", 1, x.element(5 - sort, n - 1));
            }
        }
    }

    /** 33: 0 at first (false), where another ROW was, too. */
    private static void rowZeroAtFirst() {
        for (int sort = 0; sort < 5; sort++) {
            TuneAndWords x = new TuneAndWords();
            x.row(0, 3, 60);
            for (int i = 0; i < 60; i++) x.put(0, i, -1);
            x.row(0, sort, 30);
            for (int i = 0; i < 30; i++) Check.due("row: 0 at first", 0, x.element(0, i));
            for (int i = 0; i < 30; i++) x.put(0, i, -1);
            x.row(0, sort, 60);
            for (int i = 0; i < 60; i++) Check.due("row: 0 at first", 0, x.element(0, i));
            x.put(0, 59, 1);
            x.row(0, sort, 3);
            x.row(0, sort, 60);
            Check.due("row: 0 at first", 0, x.element(0, 59));
        }
    }

    private static void putRanges() {
        for (int shelf : NO_SHELVES) House.refused("put: SHELF " + shelf, USUAL, -1, x -> x.put(shelf, 0, 1));
        for (int i : new int[] {0, 1, -1, 60, MIN, MAX}) {
            House.refused("put: nothing is there", USUAL, -11, x -> x.put(0, i, 1));
            House.refused("put: a BODY", USUAL, -12, x -> x.put(1, i, 1));
            House.refused("put: a ROW without elements", ROWS, -13, x -> x.put(5, i, 1));
        }
        House.refused("put: the number that is there", USUAL, 1, x -> x.put(3, 0, 1));
    }

    private static void putPlaces() {
        for (int i : new int[] {-1, 5, 6, 59, 60, MIN, MAX}) House.refused("put: place " + i, ROWS, -13, x -> x.put(0, i, 9));
        for (int i : new int[] {-1, 3, 4, MIN, MAX}) House.refused("put: place " + i, ROWS, -13, x -> x.put(1, i, 9));
        for (int place = 0; place < 5; place++) {
            TuneAndWords x = ROWS.x();
            Check.due("put: place " + place, 1, x.put(0, place, 9));
            for (int i = 0; i < 5; i++) Check.due("put: there alone", i == place ? 9 : i + 1, x.element(0, i));
            for (int i = 0; i < 3; i++) Check.due("put: not on another SHELF", i + 6, x.element(1, i));
        }
    }

    /** 34: what is put in keeps its lowest bits (a boolean: whether it is not 0; 1 or 0). */
    private static void putLowestBits() {
        for (int bit = 0; bit < 64; bit++) {
            for (long less = -1; less <= 1; less++) {
                for (long v : new long[] {(1L << bit) + less, -(1L << bit) + less}) {
                    TuneAndWords x = new TuneAndWords();
                    for (int sort = 0; sort < 5; sort++) {
                        x.row(sort, sort, 1);
                        Check.due("put", 1, x.put(sort, 0, v));
                    }
                    Check.due("a byte of " + v, v << 56 >> 56, x.element(0, 0));
                    Check.due("a short of " + v, v << 48 >> 48, x.element(1, 0));
                    Check.due("an int of " + v, v << 32 >> 32, x.element(2, 0));
                    Check.due("a long of " + v, v, x.element(3, 0));
                    Check.due("a boolean of " + v, v == 0 ? 0 : 1, x.element(4, 0));
                }
            }
        }
    }

    /** 35: Long.MIN_VALUE: BAD, -11 to -13. */
    private static void elementRanges() {
        for (int shelf : NO_SHELVES) House.refused("element: SHELF " + shelf, USUAL, Long.MIN_VALUE, x -> x.element(shelf, 0));
        for (int i : new int[] {0, -1, 60, MIN, MAX}) {
            House.refused("element: nothing is there", USUAL, Long.MIN_VALUE, x -> x.element(0, i));
            House.refused("element: a BODY", USUAL, Long.MIN_VALUE, x -> x.element(1, i));
            House.refused("element: a ROW without elements", ROWS, Long.MIN_VALUE, x -> x.element(5, i));
        }
        for (int i : new int[] {-1, 5, 6, 59, 60, MIN, MAX}) House.refused("element: " + i, ROWS, Long.MIN_VALUE, x -> x.element(0, i));
        for (int i = 0; i < 5; i++) {
            int it = i;
            House.refused("element: " + i, ROWS, i + 1, x -> x.element(0, it));
        }
    }

    private static void shiftRanges() {
        for (int shelf : NO_SHELVES) {
            for (int other = 0; other < 6; other++) {
                int it = other;
                House.refused("shift: SHELF " + shelf, ROWS, -1, x -> x.shift(shelf, 0, it, 0, 1));
                House.refused("shift: to SHELF " + shelf, ROWS, -1, x -> x.shift(it, 0, shelf, 0, 1));
                House.refused("shift: BAD ahead of -13", ROWS, -1, x -> x.shift(it, -1, shelf, -1, -1));
            }
        }
    }

    /** 36: -11 (either), -12 (no ROWS, or of unlike sorts), ahead of -13. */
    private static void shiftNothingOrUnlike() {
        int[] rows = {0, 1, 2, 3, 5};
        for (int n : new int[] {0, 1, -1, 61, MIN, MAX}) {
            for (int shelf : rows) {
                House.refused("shift: nothing is there", ROWS, -11, x -> x.shift(4, 0, shelf, 0, n));
                House.refused("shift: to where nothing is", ROWS, -11, x -> x.shift(shelf, 0, 4, 0, n));
                House.refused("shift: a BODY", ROWS, -12, x -> x.shift(3, 0, shelf, 0, n));
                House.refused("shift: to a BODY", ROWS, -12, x -> x.shift(shelf, 0, 3, 0, n));
                if (shelf == 2) continue;
                House.refused("shift: unlike sorts", ROWS, -12, x -> x.shift(2, 0, shelf, 0, n));
                House.refused("shift: unlike sorts", ROWS, -12, x -> x.shift(shelf, 0, 2, 0, n));
            }
            House.refused("shift: nothing to nothing", ROWS, -11, x -> x.shift(4, 0, 4, 0, n));
        }
        for (int sort = 0; sort < 5; sort++) {
            for (int like = 0; like < 5; like++) {
                TuneAndWords x = new TuneAndWords();
                x.row(0, sort, 2);
                x.row(1, like, 2);
                x.put(0, 1, 1);
                Check.due("shift: " + sort + " to " + like, sort == like ? 2 : -12, x.shift(0, 0, 1, 0, 2));
                Check.due("shift: what came", sort == like ? 1 : 0, x.element(1, 1));
            }
        }
    }

    /** 36: -13 (n below 0, too); 0 elements at the very end are fine. */
    private static void shiftPlaces() {
        for (int i = -2; i < 8; i++) {
            for (int j = -2; j < 6; j++) {
                for (int n = -2; n < 8; n++) {
                    boolean may = i >= 0 && j >= 0 && n >= 0 && i + n <= 5 && j + n <= 3;
                    TuneAndWords x = ROWS.x();
                    Check.due("shift: " + n + " from " + i + " to " + j, may ? n : -13, x.shift(0, i, 1, j, n));
                    for (int k = 0; k < 5; k++) Check.due("shift: whence it came", k + 1, x.element(0, k));
                    for (int k = 0; k < 3; k++) {
                        Check.due("shift: where it came", may && k >= j && k < j + n ? i + k - j + 1 : k + 6, x.element(1, k));
                    }
                }
            }
        }
        int[] far = {MIN, MIN + 1, -1, 0, 1, MAX - 1, MAX, 1 << 30};
        for (int i : far) {
            for (int j : far) {
                for (int n : far) {
                    boolean may = i >= 0 && i < 2 && j >= 0 && j < 2 && n >= 0 && n < 2;
                    if (!may) Check.due("shift: far places", -13, ROWS.x().shift(0, i, 1, j, n));
                }
            }
        }
        House.refused("shift: places that would wrap", ROWS, -13, x -> x.shift(0, MAX, 1, 0, MAX));
        House.refused("shift: places that would wrap", ROWS, -13, x -> x.shift(0, 0, 1, MAX, 1));
        House.refused("shift: n below 0", ROWS, -13, x -> x.shift(0, 0, 1, 0, -1));
        House.refused("shift: n below 0", ROWS, -13, x -> x.shift(0, 3, 1, 3, MIN));
        House.refused("shift: none", ROWS, 0, x -> x.shift(0, 5, 1, 3, 0));
        House.refused("shift: none, behind the end", ROWS, -13, x -> x.shift(0, 6, 1, 3, 0));
        House.refused("shift: none, behind the other's end", ROWS, -13, x -> x.shift(0, 5, 1, 4, 0));
        House.refused("shift: none of no elements", ROWS, 0, x -> x.shift(5, 0, 5, 0, 0));
        House.refused("shift: one of no elements", ROWS, -13, x -> x.shift(5, 0, 0, 0, 1));
        House.refused("shift: one to no elements", ROWS, -13, x -> x.shift(0, 0, 5, 0, 1));
        TuneAndWords x = new TuneAndWords();
        for (int shelf = 0; shelf < 2; shelf++) x.row(shelf, 1, 60);
        for (int i = 0; i < 60; i++) x.put(0, i, 100 + i);
        Check.due("shift: sixty", 60, x.shift(0, 0, 1, 0, 60));
        for (int i = 0; i < 60; i++) Check.due("shift: sixty came", 100 + i, x.element(1, i));
        Check.due("shift: sixty-one", -13, x.shift(0, 0, 1, 0, 61));
    }

    /** 36: the same ROW: as they all were before. */
    private static void shiftOverItself() {
        for (int i = 0; i <= 5; i++) {
            for (int j = 0; j <= 5; j++) {
                for (int n = 0; n <= 5 - Math.max(i, j); n++) {
                    TuneAndWords x = ROWS.x();
                    Check.due("shift: within a ROW", n, x.shift(0, i, 0, j, n));
                    for (int k = 0; k < 5; k++) {
                        Check.due("shift: as they all were before", k >= j && k < j + n ? i + k - j + 1 : k + 1, x.element(0, k));
                    }
                }
            }
        }
    }

    private static void takenRanges() {
        for (int k = 0; k < 8; k++) {
            int kind = k;
            for (int shelf : NO_SHELVES) House.refused("taken: SHELF " + shelf, USUAL, -1, x -> x.taken(shelf, kind));
            House.refused("taken: nothing is there", USUAL, -11, x -> x.taken(0, kind));
            for (int shelf = 2; shelf < 6; shelf++) {
                int it = shelf;
                House.refused("taken: a ROW", USUAL, -12, x -> x.taken(it, kind));
            }
            House.refused("taken: a ROW without elements", ROWS, -12, x -> x.taken(5, kind));
            House.changesNothing("taken", USUAL, x -> x.taken(1, kind));
        }
        for (int kind : new int[] {-1, 8, 9, MIN, MAX}) {
            for (int shelf = 0; shelf < 6; shelf++) {
                int it = shelf;
                House.refused("taken: KIND " + kind, USUAL, -1, x -> x.taken(it, kind));
            }
        }
    }

    /** 37: of KIND k, or under it; -12: of another one, above it or beside it. */
    private static void takenUnder() {
        String[] all = {"0", "01", "02", "023", "014", "0235", "06", "067"};
        for (int kind = 0; kind < 8; kind++) {
            for (int k = 0; k < 8; k++) {
                TuneAndWords x = new TuneAndWords();
                x.body(kind);
                x.keep(5, 0);
                Check.due("taken: KIND " + kind + " for " + k, all[kind].indexOf('0' + k) >= 0 ? kind : -12, x.taken(5, k));
            }
        }
    }

    private static void countRanges() {
        for (int what : new int[] {-1, 6, 7, MIN, MAX}) {
            House.refused("count: " + what, USUAL, -1, x -> x.count(what));
            House.refused("count: " + what, House.NEW, -1, x -> x.count(what));
        }
        for (int what = 0; what < 6; what++) {
            int it = what;
            House.changesNothing("count", USUAL, x -> x.count(it));
            Check.due("count: a new object", 0, new TuneAndWords().count(what));
        }
    }

    /** 38: as many as there can be. */
    private static void countUpTo() {
        TuneAndWords x = new TuneAndWords();
        x.row(0, 0, 36);
        for (int song = 0; song < 3; song++) x.lines(song, 0, 0, 12);
        Check.due("count: LINES", 36, x.count(0));
        for (int bit = 0; bit < 288; bit++) {
            if (bit % 48 == 0) Check.due("count: bits", bit, x.count(1));
            x.has(bit % 4, bit / 96 * 100 + bit / 8 % 12, bit / 4 % 2, 1);
        }
        Check.due("count: all bits", 288, x.count(1));
        x = new TuneAndWords();
        for (int i = 0; i < 121; i++) x.feed(0);
        Check.due("count: bytes", 120, x.count(2));
        x.law();
        Check.due("count: no bytes", 0, x.count(2));
        for (int i = 0; i < 41; i++) x.mend(0, 3, i % 2);
        Check.due("count: CHANGES", 40, x.count(3));
        for (int i = 0; i < 51; i++) x.body(5);
        Check.due("count: BODIES", 50, x.count(4));
        x.act(49, 3, 0);
        Check.due("count: bodies that ran", 10, x.count(5));
        x.act(50, 3, 0);
        Check.due("count: none ran", 0, x.count(5));
    }
}
