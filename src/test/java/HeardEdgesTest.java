import java.util.function.IntUnaryOperator;

/** Promises 15 to 21, the sentences that name a boundary. */
final class HeardEdgesTest {
    private static final int MIN = Integer.MIN_VALUE, MAX = Integer.MAX_VALUE;
    private static final int[] NO_SHELVES = {-1, 6, 100, MIN, MAX}, NO_SONGS = {-1, 3, 100, MIN, MAX};
    private static final House.Made USUAL = House.USUAL;
    private static final House.Made SHELVED = HeardEdgesTest::shelved;

    public static void main(String[] args) {
        refusals();
        noRowOfBytes();
        whatIsAskedChangesNothing();
        nothingHeard();
        anywhereInOrder();
        longerThanTheSong();
        noTunes();
        whichBits();
        fromTheFirst();
        toldNothing();
        toldNoLine();
        toldOneTooMuch();
        toldWrongAnywhere();
        toldSixty();
        toldOneThatSticks();
        lackedBits();
        lackedNoBits();
        lackedAsItIs();
        lackedOneAtATime();
        twoRanges();
        twoWithoutLines();
        twoOfLikeOnes();
        twoUpToTwelve();
        mixedRanges();
        mixedPlaces();
        mixedByTuneAlone();
        drawnRanges();
        drawnForgets();
        drawnNights();
        drawnInThought();
        Check.end("HeardEdgesTest");
    }

    /** SHELF 0 nothing, 1 to 4 ROWS of the other sorts without elements, 5 a BODY; SONG 2 without LINES. */
    private static TuneAndWords shelved() {
        TuneAndWords x = Given.known(3);
        Given.addTunes(x, 1, 0, 1);
        for (int shelf = 1; shelf < 5; shelf++) x.row(shelf, shelf, 0);
        x.body(3);
        x.keep(5, 0);
        return x;
    }

    private static void refusals() {
        for (int shelf : NO_SHELVES) {
            House.refused("which: SHELF " + shelf, USUAL, -1, x -> x.which(shelf));
            House.refused("lacked: SHELF " + shelf, USUAL, Long.MIN_VALUE, x -> x.lacked(shelf, 0));
            for (int song : new int[] {0, 2, 3}) {
                House.refused("from: SHELF " + shelf, USUAL, -1, x -> x.from(shelf, song));
                House.refused("judge: SHELF " + shelf, USUAL, -1, x -> x.judge(shelf, song));
            }
        }
        for (int song : NO_SONGS) {
            for (int shelf = 0; shelf < 6; shelf++) {
                int it = shelf;
                House.refused("from: SONG " + song, SHELVED, -1, x -> x.from(it, song));
                House.refused("judge: SONG " + song, SHELVED, -1, x -> x.judge(it, song));
                House.refused("lacked: SONG " + song, SHELVED, Long.MIN_VALUE, x -> x.lacked(it, song));
                House.refused("from: SONG " + song, USUAL, -1, x -> x.from(it, song));
                House.refused("judge: SONG " + song, USUAL, -1, x -> x.judge(it, song));
                House.refused("lacked: SONG " + song, USUAL, Long.MIN_VALUE, x -> x.lacked(it, song));
            }
        }
    }

    /** -11 where nothing is; -12 where it is a BODY, or a ROW of another sort, though without elements. */
    private static void noRowOfBytes() {
        for (int shelf = 0; shelf < 6; shelf++) {
            int it = shelf, due = shelf == 0 ? -11 : -12;
            House.refused("which: no ROW of bytes on " + shelf, SHELVED, due, x -> x.which(it));
            for (int song = 0; song < 3; song++) {
                int of = song;
                House.refused("from: no ROW of bytes on " + shelf, SHELVED, due, x -> x.from(it, of));
                House.refused("judge: no ROW of bytes on " + shelf, SHELVED, due, x -> x.judge(it, of));
                House.refused("lacked: no ROW of bytes on " + shelf, SHELVED, Long.MIN_VALUE, x -> x.lacked(it, of));
            }
        }
        TuneAndWords x = SHELVED.x();
        for (int shelf = 0; shelf < 6; shelf++) {
            x.row(shelf, 0, 0);
            Check.due("which: a ROW of bytes on " + shelf, 7, x.which(shelf));
            x.keep(shelf, -1);
            Check.due("which: it's gone from " + shelf, -11, x.which(shelf));
            x.keep(shelf, 0);
            Check.due("which: a BODY on " + shelf, -12, x.which(shelf));
            x.row(shelf, 1 + shelf % 4, 1);
            Check.due("which: another sort on " + shelf, -12, x.which(shelf));
        }
    }

    private static void whatIsAskedChangesNothing() {
        for (int song = 0; song < 3; song++) {
            for (int shelf : new int[] {3, 5}) {
                int of = song;
                House.changesNothing("which", USUAL, x -> x.which(shelf));
                House.changesNothing("from", USUAL, x -> x.from(shelf, of));
                House.changesNothing("judge", USUAL, x -> x.judge(shelf, of));
                House.changesNothing("lacked", USUAL, x -> x.lacked(shelf, of));
            }
        }
    }

    private static TuneAndWords heard(int... tunes) {
        TuneAndWords x = Given.tunes(1, 1, 2, 1, 1, 3);
        Given.addTunes(x, 1, 3, 1, 2, 3, 4, 5, 6, 7, 0, 1, 1, 2);
        Given.row(x, 2, tunes);
        return x;
    }

    private static void stretch(int which, int inFirst, int inSecond, int... tunes) {
        TuneAndWords x = heard(tunes);
        StringBuilder what = new StringBuilder(" of");
        for (int tune : tunes) what.append(' ').append(tune);
        Check.due("which" + what, which, x.which(2));
        Check.due("from, SONG 0" + what, inFirst, x.from(2, 0));
        Check.due("from, SONG 1" + what, inSecond, x.from(2, 1));
        Check.due("from, no LINES" + what, tunes.length == 0 ? 0 : -2, x.from(2, 2));
    }

    /** A ROW without elements is anywhere, in a SONG without LINES too. */
    private static void nothingHeard() {
        stretch(7, 0, 0);
        TuneAndWords x = new TuneAndWords();
        x.row(0, 0, 0);
        Check.due("which: no LINES", 7, x.which(0));
        for (int song = 0; song < 3; song++) Check.due("from: no LINES", 0, x.from(0, song));
        x.row(0, 0, 1);
        Check.due("which: one TUNE, no LINES", 0, x.which(0));
        for (int song = 0; song < 3; song++) Check.due("from: one TUNE, no LINES", -2, x.from(0, song));
    }

    private static void anywhereInOrder() {
        stretch(3, 0, 1, 1);
        stretch(3, 2, 2, 2);
        stretch(3, 5, 0, 3);
        stretch(2, -2, 8, 0);
        stretch(2, -2, 7, 7);
        stretch(3, 0, 9, 1, 1);
        stretch(3, 1, 1, 1, 2);
        stretch(3, 0, 9, 1, 1, 2);
        stretch(1, 4, -2, 1, 3);
        stretch(1, 3, -2, 1, 1, 3);
        stretch(1, 2, -2, 2, 1, 1, 3);
        stretch(2, -2, 0, 3, 1);
        stretch(2, -2, 8, 0, 1, 1, 2);
        stretch(0, -2, -2, 3, 2);
        stretch(0, -2, -2, 2, 2);
        stretch(0, -2, -2, 1, 1, 1);
        stretch(0, -2, -2, 3, 1, 1);
        stretch(1, 0, -2, 1, 1, 2, 1, 1, 3);
        stretch(2, -2, 0, 3, 1, 2, 3, 4, 5, 6, 7, 0, 1, 1, 2);
    }

    /** What begins in a SONG and goes on behind its end isn't there. */
    private static void longerThanTheSong() {
        stretch(0, -2, -2, 1, 1, 2, 1, 1, 3, 0);
        stretch(0, -2, -2, 1, 3, 0);
        stretch(0, -2, -2, 3, 0);
        stretch(0, -2, -2, 3, 1, 2, 3, 4, 5, 6, 7, 0, 1, 1, 2, 0);
        stretch(0, -2, -2, 1, 1, 2, 0);
        stretch(0, -2, -2, 1, 1, 2, 1, 1, 3, 3, 1, 2);
        TuneAndWords x = Given.tunes(0, 0, 0, 0, 0, 0, 0, 0, 0, 0, 0, 0);
        for (int n = 0; n <= 60; n++) {
            x.row(4, 0, n);
            Check.due("which: " + n + " like ones", n == 0 ? 7 : n <= 12 ? 1 : 0, x.which(4));
            Check.due("from: " + n + " like ones", n <= 12 ? 0 : -2, x.from(4, 0));
        }
    }

    /** A byte below 0 or above 7 is no LINE's TUNE. */
    private static void noTunes() {
        for (int v : new int[] {-1, 8, -128, 127, 9, -8}) stretch(0, -2, -2, v);
        stretch(0, -2, -2, 1, -1);
        stretch(3, 0, 1, 257);
        stretch(2, -2, 8, 256);
    }

    private static void whichBits() {
        for (int bits = 0; bits < 8; bits++) {
            TuneAndWords x = new TuneAndWords();
            for (int song = 0; song < 3; song++) Given.addTunes(x, song, 5, (bits >> song & 1) == 1 ? 6 : 7);
            Given.row(x, 0, 5, 6);
            Check.due("which", bits, x.which(0));
            for (int song = 0; song < 3; song++) Check.due("from", (bits >> song & 1) == 1 ? 0 : -2, x.from(0, song));
        }
    }

    /** The first LINE where it begins, from 0 to 11. */
    private static void fromTheFirst() {
        for (int line = 0; line < 12; line++) {
            TuneAndWords x = Given.tunes(0, 0, 0, 0, 0, 0, 0, 0, 0, 0, 0, 0);
            for (int later = line; later < 12; later++) x.mend(later, 0, 4);
            Given.row(x, 0, 4);
            Check.due("from: the first of them", line, x.from(0, 0));
            Given.row(x, 0, 4, 4);
            Check.due("from: two of them", line < 11 ? line : -2, x.from(0, 0));
            Given.row(x, 0, 0, 4);
            Check.due("from: ahead of them", line > 0 ? line - 1 : -2, x.from(0, 0));
        }
    }

    // ---- told

    /** Twelve LINES that SINGER 0 HAS, the next one in mind alone. */
    private static TuneAndWords told(int... lines) {
        TuneAndWords x = Given.known(12);
        Given.law(x, "a");
        Given.row(x, 4, lines);
        return x;
    }

    private static void toldNothing() {
        Check.due("judge: nothing told", -2, told().judge(4, 0));
        Check.due("judge: nothing told of no LINES", -2, told().judge(4, 2));
        TuneAndWords x = Given.tunes(0);
        x.row(0, 0, 0);
        Check.due("judge: nothing told, nobody HAS anything", -2, x.judge(0, 0));
        x.row(0, 0, 1);
        Check.due("judge: one told, nobody HAS anything", 0, x.judge(0, 0));
        Check.due("judge: one told of no LINES", 0, x.judge(0, 1));
    }

    /** One that is no LINE of the SONG is not so. */
    private static void toldNoLine() {
        for (int v : new int[] {-1, 12, -128, 127, 13, 100, 99}) {
            Check.due("judge: first " + v, 0, told(v, 0).judge(4, 0));
            Check.due("judge: second " + v, 1, told(0, v, 2).judge(4, 0));
            Check.due("judge: behind the last " + v, 1, told(11, v).judge(4, 0));
        }
        Check.due("judge: the last LINE", -2, told(11).judge(4, 0));
        Check.due("judge: the first LINE", -2, told(0).judge(4, 0));
        Check.due("judge: by its lowest bits", -2, told(256, 257).judge(4, 0));
    }

    /** One too much, too; fewer may be. */
    private static void toldOneTooMuch() {
        int[] lines = {0, 1, 2, 3, 4, 5, 6, 7, 8, 9, 10, 11, 12};
        for (int n = 0; n <= 13; n++) {
            Check.due("judge: the first " + n, n == 13 ? 12 : -2, told(java.util.Arrays.copyOf(lines, n)).judge(4, 0));
        }
        for (int more = 0; more < 12; more++) {
            Check.due("judge: 11 is the last", 1, told(11, more).judge(4, 0));
            Check.due("judge: 11 is the last", 2, told(10, 11, more).judge(4, 0));
        }
        TuneAndWords x = told(3, 4, 5);
        x.has(0, 6, 0, 0);
        x.has(0, 6, 1, 0);
        Check.due("judge: as many as there are", -2, x.judge(4, 0));
        Given.row(x, 4, 3, 4, 5, 6);
        Check.due("judge: one too much", 3, x.judge(4, 0));
        Given.row(x, 4, 3, 4, 5, 3, 4);
        Check.due("judge: two too much, the first of them", 3, x.judge(4, 0));
    }

    private static void toldWrongAnywhere() {
        for (int wrong = 1; wrong < 12; wrong++) {
            for (int line = 0; line < 12; line++) {
                int[] lines = {0, 1, 2, 3, 4, 5, 6, 7, 8, 9, 10, 11};
                lines[wrong] = line;
                Check.due("judge: " + line + " at " + wrong, line == wrong ? -2 : wrong, told(lines).judge(4, 0));
                if (wrong == 11) continue;
                lines[11] = 0;
                Check.due("judge: the first that is not so", line == wrong ? 11 : wrong, told(lines).judge(4, 0));
            }
        }
    }

    private static TuneAndWords round(String law, int n, int lines) {
        TuneAndWords x = Given.known(lines);
        Given.law(x, law);
        x.row(0, 0, n);
        for (int i = 0; i < n; i++) x.put(0, i, i % lines);
        return x;
    }

    /** A ROW has at most 60, and so many a singing that goes ROUND has. */
    private static void toldSixty() {
        Check.due("judge: sixty of a round", -2, round("99-k", 60, 5).judge(0, 0));
        Check.due("judge: fifty-nine", -2, round("99-k", 59, 5).judge(0, 0));
        Check.due("judge: sixty, it ENDS behind 59", 59, round("k<30-a", 60, 2).judge(0, 0));
        Check.due("judge: fifty-nine, it ENDS then", -2, round("k<30-a", 59, 2).judge(0, 0));
        TuneAndWords x = round("99-k", 60, 5);
        x.put(0, 59, 0);
        Check.due("judge: the sixtieth is not so", 59, x.judge(0, 0));
        Check.due("judge: sixty, each twice alone", 10, round("2-k", 60, 5).judge(0, 0));
    }

    /** A LINE that STICKS is not sung. */
    private static void toldOneThatSticks() {
        for (int line = 0; line < 12; line++) {
            int[] lines = {0, 1, 2, 3, 4, 5, 6, 7, 8, 9, 10, 11};
            TuneAndWords x = told(lines);
            x.has(0, line, line % 2, 0);
            Check.due("judge: it STICKS at " + line, line, x.judge(4, 0));
            Given.row(x, 4, line);
            Check.due("judge: it STICKS at once", 0, x.judge(4, 0));
        }
    }

    // ---- lacked

    /** By fours SINGERS; of LINE l bits 4 l on, LINES 0 .. 11. */
    private static void lackedBits() {
        for (int n = 0; n <= 12; n++) {
            TuneAndWords x = Given.known(n);
            Given.law(x, "a");
            x.row(0, 0, 0);
            Check.due("lacked: nothing told of " + n, (1L << 4 * n) - 1, x.lacked(0, 0));
        }
        for (int line = 0; line < 12; line++) {
            for (int singer = 0; singer < 4; singer++) {
                TuneAndWords x = Given.tunes(0, 0, 0, 0, 0, 0, 0, 0, 0, 0, 0, 0);
                for (int who = 0; who < 4; who++) {
                    for (int i = 0; i < 12; i++) if (i != line || who == singer) Given.learn(x, who, 0, 2, i);
                }
                Given.row(x, 0, line);
                long bit = 1L << (4 * line + singer);
                Check.due("lacked: needed is " + singer + " at " + line, (1L << 48) - 1 - bit, x.lacked(0, 0));
                x.has((singer + 1) % 4, line, 0, 1);
                Check.due("lacked: her words are needed", (1L << 48) - 1 - bit, x.lacked(0, 0));
                x.has((singer + 2) % 4, line, 1, 1);
                Check.due("lacked: two others have it", (1L << 48) - 1, x.lacked(0, 0));
            }
        }
    }

    private static void lackedNoBits() {
        TuneAndWords x = told(0, 2);
        Check.due("lacked: not so, whoever lacks what", 0, x.lacked(4, 0));
        Check.due("lacked: no LINES", 0, x.lacked(4, 1));
        Given.row(x, 4, 12);
        Check.due("lacked: no LINE at first", 0, x.lacked(4, 0));
        Given.row(x, 4, -1);
        Check.due("lacked: no LINE at first", 0, x.lacked(4, 0));
        Check.due("lacked: nothing told of no LINES", 0, told().lacked(4, 1));
        TuneAndWords y = Given.tunes(0, 0);
        Given.row(y, 0, 1);
        Check.due("lacked: nobody HAS it", 0, y.lacked(0, 0));
    }

    /** What it lacks as it is counts, too: one who has neither, or just one of the two. */
    private static void lackedAsItIs() {
        for (int bits = 0; bits < 4; bits++) {
            TuneAndWords x = Given.known(2);
            Given.law(x, "a");
            for (int what = 0; what < 2; what++) x.has(2, 1, what, bits >> what & 1);
            Given.row(x, 0, 0, 1);
            // SINGER 0 is needed at both, unless 2 HAS all of LINE 1.
            Check.due("lacked: SINGER 2 with " + bits, bits == 3 ? 0xFE : 0xEE, x.lacked(0, 0));
            Check.due("lacked: all is as it was", 4 + Integer.bitCount(bits), x.count(1));
            x.has(0, 1, 0, 0);
            Given.row(x, 0, 0);
            Check.due("lacked: of LINE 1 anybody", 0xFE, x.lacked(0, 0));
        }
    }

    /** One SINGER, one LINE at a time. */
    private static void lackedOneAtATime() {
        TuneAndWords x = Given.tunes(0, 0, 0);
        Given.law(x, "a");
        for (int singer = 0; singer < 2; singer++) Given.learn(x, singer, 0, 2, 0, 1, 2);
        Given.row(x, 0, 0, 1, 2);
        Check.due("lacked: each of two alone", 0xFFF, x.lacked(0, 0));
        x.has(1, 0, 1, 0);
        x.has(0, 2, 0, 0);
        Check.due("lacked: one at 0, the other at 2", 0xFFF - 1 - 0x200, x.lacked(0, 0));
        // It is not so as it is, but it would be without SINGER 1's LINE 2.
        TuneAndWords y = Given.tunes(0, 0, 0);
        Given.learn(y, 0, 0, 2, 0, 1, 2);
        Given.learn(y, 1, 0, 2, 2);
        y.mend(1, 3, 9);
        Given.law(y, "s>5?9*!k;a");
        Given.row(y, 0, 0, 1);
        Check.due("judge: as it is", 1, y.judge(0, 0));
        Check.due("lacked: SINGER 1 at LINE 2 alone", 0x200, y.lacked(0, 0));
    }

    // ---- two songs

    /** 19: 10 times the one and the other, unlike. */
    private static void twoRanges() {
        for (int ab = -40; ab < 140; ab++) {
            int one = ab / 10, other = ab % 10;
            boolean may = ab >= 0 && one < 3 && other < 3 && one != other;
            for (int what = 0; what < 3; what++) {
                int of = ab, it = what;
                if (may) House.changesNothing("two", USUAL, x -> x.two(of, it));
                else Check.due("two: " + ab, -1, House.usual().two(ab, what));
            }
            if (may) Check.holds("two: " + ab, House.usual().two(ab, 0) >= 0);
        }
        for (int ab : new int[] {-1, 0, 3, 11, 22, 30, 100, MIN, MAX}) House.refused("two: " + ab, USUAL, -1, x -> x.two(ab, 0));
        for (int what : new int[] {-1, 3, MIN, MAX}) {
            House.refused("two: what " + what, USUAL, -1, x -> x.two(1, what));
            House.refused("two: BAD what ahead of NOT", USUAL, -1, x -> x.two(2, what));
        }
    }

    private static void two(String what, TuneAndWords x, int ab, int... due) {
        for (int i = 0; i < 3; i++) Check.due(what + ", two " + ab + " " + i, due[i], x.two(ab, i));
    }

    /** 19: how long: 0; where: NOT. */
    private static void twoWithoutLines() {
        for (int ab : new int[] {1, 2, 10, 12, 20, 21}) two("no LINES", new TuneAndWords(), ab, 0, -2, -2);
        TuneAndWords x = Given.tunes(1, 2);
        Given.addTunes(x, 1, 3, 4);
        for (int ab : new int[] {1, 2, 10, 12, 20, 21}) two("none alike", x, ab, 0, -2, -2);
        x.mend(101, 0, 1);
        two("one alike", x, 1, 1, 0, 1);
        two("one alike", x, 10, 1, 1, 0);
    }

    /** 19: of like ones the first, in the other likewise. */
    private static void twoOfLikeOnes() {
        TuneAndWords x = Given.tunes(1, 2, 0, 1, 2);
        Given.addTunes(x, 1, 7, 1, 2, 7, 1, 2);
        two("twice in both", x, 1, 2, 0, 1);
        two("twice in both", x, 10, 2, 1, 0);
        x.mend(3, 0, 0);
        two("once in the one", x, 1, 2, 0, 1);
        x.mend(0, 0, 7);
        x.mend(3, 0, 1);
        two("7 1 is no stretch of it, 7 2 neither", x, 1, 2, 3, 1);
        x.mend(4, 0, 6);
        two("one alone: the first of the one", x, 1, 1, 0, 0);
        TuneAndWords y = Given.tunes(3, 3, 3);
        Given.addTunes(y, 2, 3, 3, 3, 3, 3);
        two("anywhere alike", y, 2, 3, 0, 0);
        two("anywhere alike", y, 20, 3, 0, 0);
        y.mend(201, 0, 4);
        two("the last three", y, 2, 3, 0, 2);
        two("the last three", y, 20, 3, 2, 0);
    }

    /** 19: up to twelve; what goes on in one alone doesn't count. */
    private static void twoUpToTwelve() {
        for (int n = 1; n <= 12; n++) {
            for (int m = 1; m <= 12; m++) {
                TuneAndWords x = new TuneAndWords();
                for (int i = 0; i < n; i++) x.line(0, 600);
                for (int i = 0; i < m; i++) x.line(1, 601);
                two(n + " and " + m + " alike", x, 1, Math.min(n, m), 0, 0);
            }
        }
        for (int at = 0; at < 12; at++) {
            TuneAndWords x = new TuneAndWords();
            for (int i = 0; i < 12; i++) x.line(0, i < at ? 0 : 100);
            for (int i = 0; i < 12; i++) x.line(2, i < 12 - at ? 100 : 200);
            two("the end of one at the beginning of the other", x, 2, 12 - at, at, 0);
            two("the beginning of one at the end of the other", x, 20, 12 - at, 0, at);
        }
    }

    // ---- mixed

    private static void mixedRanges() {
        for (int sl : new int[] {-1, 5, 12, 99, 112, 200, 300, -100, MIN, MAX}) {
            for (int other = 0; other < 3; other++) {
                int of = other;
                House.refused("mixed: LINE " + sl, USUAL, -1, x -> x.mixed(sl, of));
            }
        }
        for (int other : NO_SONGS) House.refused("mixed: SONG " + other, USUAL, -1, x -> x.mixed(0, other));
        House.refused("mixed: the same SONG", USUAL, -1, x -> x.mixed(0, 0));
        House.refused("mixed: the same SONG", USUAL, -1, x -> x.mixed(111, 1));
        House.refused("mixed: a SONG without LINES", USUAL, -2, x -> x.mixed(0, 2));
        for (int sl : new int[] {0, 4}) House.changesNothing("mixed", USUAL, x -> x.mixed(sl, 1));
        House.changesNothing("mixed", USUAL, x -> x.mixed(100, 0));
    }

    /** 20: its place (0 on) in the SINGING, up to the sixtieth; a LINE that STICKS has none. */
    private static void mixedPlaces() {
        for (int line = 0; line < 8; line++) {
            TuneAndWords x = Given.known(8);
            Given.law(x, "a");
            x.line(1, 100 * line);
            x.has(3, 100, 0, 1);
            for (int from = 0; from < 8; from++) {
                Check.due("mixed: " + line + " from " + from, from <= line ? line - from : -2, x.mixed(from, 1));
            }
            x.has(0, line, 1, 0);
            for (int from = 0; from < 8; from++) Check.due("mixed: it STICKS there", -2, x.mixed(from, 1));
        }
        // 0 and 1 by turns, then 2: as the sixtieth, or it would be the sixty-first.
        TuneAndWords x = Given.known(2);
        x.mend(1, 1, 0);
        x.line(0, 777);
        Given.learn(x, 0, 0, 2, 2);
        x.line(2, 700);
        x.has(0, 200, 0, 1);
        Given.law(x, "w?60-k*2-a*2;1");
        Check.due("the sixtieth", 2, x.sung(0, 59, 0));
        Check.due("mixed: the sixtieth", 59, x.mixed(0, 2));
        Given.law(x, "w?60-k*2;1");
        Check.due("ROUND", 2, x.sing(0, 1));
        Check.due("mixed: no sixty-first", -2, x.mixed(0, 2));
        Check.due("mixed: the first one", 0, x.mixed(2, 2));
    }

    /** 20: the TUNE of the LINE just sung alone; whoever HAS its tune, words or not. */
    private static void mixedByTuneAlone() {
        for (int singer = 0; singer < 4; singer++) {
            TuneAndWords x = Given.known(3);
            Given.law(x, "a");
            x.line(1, 311);
            x.line(1, 222);
            Check.due("mixed: nobody HAS it", -2, x.mixed(0, 1));
            x.has(singer, 101, 1, 1);
            Check.due("mixed: words alone", -2, x.mixed(0, 1));
            x.has(singer, 100, 0, 1);
            Check.due("mixed: another TUNE", -2, x.mixed(0, 1));
            x.has(singer, 101, 0, 1);
            Check.due("mixed: by SINGER " + singer, 2, x.mixed(0, 1));
            x.mend(100, 0, 1);
            Check.due("mixed: an earlier one", 1, x.mixed(0, 1));
            x.has(singer, 100, 0, 0);
            Check.due("mixed: lost", 2, x.mixed(0, 1));
        }
        TuneAndWords x = Given.tunes(4);
        x.line(1, 400);
        x.has(0, 100, 0, 1);
        Check.due("mixed: it STICKS at once", -2, x.mixed(0, 1));
        Given.learn(x, 1, 0, 2, 0);
        Check.due("mixed: it meets at once", 0, x.mixed(0, 1));
    }

    // ---- drawn

    private static void drawnRanges() {
        for (int what = 0; what < 2; what++) {
            int it = what;
            for (int n : new int[] {0, 21, -1, 22, MIN, MAX}) House.refused("drawn: n " + n, USUAL, -1, x -> x.drawn(0, 7, n, it));
            for (int song : NO_SONGS) House.refused("drawn: SONG " + song, USUAL, -1, x -> x.drawn(song, 7, 1, it));
            House.refused("drawn: no LINES", USUAL, 0, x -> x.drawn(2, 7, 20, it));
            House.refused("drawn: BAD n, no LINES", USUAL, -1, x -> x.drawn(2, 7, 0, it));
        }
        for (int what : new int[] {-1, 2, MIN, MAX}) House.refused("drawn: what " + what, USUAL, -1, x -> x.drawn(0, 7, 1, what));
        Check.holds("drawn: n 1", House.usual().drawn(0, 7, 1, 1) >= 0);
        Check.holds("drawn: n 20", House.usual().drawn(0, 7, 20, 1) >= 0);
    }

    /** Twelve LINES, all of which all SINGERS have but what a number leaves out. */
    private static TuneAndWords twelve(IntUnaryOperator has) {
        TuneAndWords x = new TuneAndWords();
        x.row(0, 0, 36);
        for (int song = 0; song < 2; song++) x.lines(song, 0, 0, 12);
        for (int bit = 0; bit < 96; bit++) x.has(bit / 24, bit / 2 % 12, bit % 2, has.applyAsInt(bit));
        Given.learn(x, 2, 1, 2, 3);
        Given.law(x, "a");
        return x;
    }

    /** As the document has it, with a flag for each bit: 100 times what was RIGHT, and what is left. */
    private static int forgotten(IntUnaryOperator has, int forgets, int seed, int nights) {
        boolean[] had = new boolean[96];
        for (int bit = 0; bit < 96; bit++) had[bit] = has.applyAsInt(bit) == 1;
        int z = seed, right = 0, left = 0;
        for (int night = 0; night < nights; night++) {
            for (int bit = 0; bit < 96; bit++) {
                if (!had[bit]) continue;
                z = z * 1103515245 + 12345;
                if ((z >>> 8) % 12 < forgets) had[bit] = false;
            }
            for (int line = 0; line < 12; line++) {
                int tune = 0, words = 0;
                for (int singer = 0; singer < 4; singer++) {
                    if (had[24 * singer + 2 * line]) tune++;
                    if (had[24 * singer + 2 * line + 1]) words++;
                }
                if (tune == 0 || words == 0) break;
                right++;
            }
        }
        for (boolean h : had) if (h) left++;
        return 100 * right + left;
    }

    private static void compare(IntUnaryOperator has, int forgets, int seed, int nights) {
        TuneAndWords x = twelve(has);
        x.mend(0, 4, forgets);
        String what = "drawn: FORGETS " + forgets + ", SEED " + seed + ", nights " + nights;
        int due = forgotten(has, forgets, seed, nights);
        Check.due(what + ", RIGHT", due / 100, x.drawn(0, seed, nights, 0));
        Check.due(what + ", left", due % 100, x.drawn(0, seed, nights, 1));
    }

    /** 21: below FORGETS (0 .. 12): with 0 nothing is forgotten, with 12 all in the first night. */
    private static void drawnForgets() {
        for (int seed : new int[] {0, 1, -1, MIN, MAX, 12345, -98765}) {
            for (int forgets = 0; forgets <= 12; forgets++) {
                compare(bit -> 1, forgets, seed, 1);
                compare(bit -> bit % 3 == 1 ? 0 : 1, forgets, seed, 3);
            }
        }
        TuneAndWords x = twelve(bit -> 1);
        for (int seed : new int[] {0, 1, -1, MIN, MAX}) {
            Check.due("drawn: FORGETS 0, RIGHT", 240, x.drawn(0, seed, 20, 0));
            Check.due("drawn: FORGETS 0, left", 96, x.drawn(0, seed, 20, 1));
        }
        x.mend(0, 4, 12);
        for (int seed : new int[] {0, 1, -1, MIN, MAX}) {
            Check.due("drawn: FORGETS 12, RIGHT", 0, x.drawn(0, seed, 20, 0));
            Check.due("drawn: FORGETS 12, left", 0, x.drawn(0, seed, 1, 1));
        }
    }

    /** 21: each night goes on with z and with what is left; for good. */
    private static void drawnNights() {
        for (int n = 1; n <= 20; n++) {
            for (int seed : new int[] {0, 7, -1, MIN, MAX}) {
                compare(bit -> 1, 1, seed, n);
                compare(bit -> bit / 24 == 3 ? 1 : 0, 1, seed, n);
                compare(bit -> bit % 2, 2, seed, n);
                compare(bit -> bit == 0 || bit == 95 ? 1 : 0, 3, seed, n);
            }
        }
    }

    /** 21: in thought: what SINGERS have stays, of this SONG and of others; a singing in deed too. */
    private static void drawnInThought() {
        for (int what = 0; what < 2; what++) {
            int it = what;
            for (int song = 0; song < 2; song++) {
                int of = song;
                House.changesNothing("drawn", USUAL, x -> x.drawn(of, 7, 20, it));
                House.changesNothing("drawn, all is forgotten", () -> {
                    TuneAndWords x = House.usual();
                    x.mend(0, 4, 12);
                    return x;
                }, x -> x.drawn(of, 7, 20, it));
            }
        }
        TuneAndWords x = twelve(bit -> 1);
        Check.due("drawn: bits of its SONG alone", 96, x.drawn(0, 0, 1, 1));
        Check.due("drawn: of the other one", 2, x.drawn(1, 0, 1, 1));
        Check.due("drawn: of no LINES", 0, x.drawn(2, 0, 1, 1));
        Check.due("drawn: all are had still", 98, x.count(1));
    }
}
