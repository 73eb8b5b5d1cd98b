/** Promises 9 to 14, the sentences that name a boundary. */
final class ThoughtEdgesTest {
    private static final int MIN = Integer.MIN_VALUE, MAX = Integer.MAX_VALUE;
    private static final House.Made USUAL = House.USUAL;
    private static final House.Made ALL = ThoughtEdgesTest::all;
    private static final int[] NO_LINES = {-1, 5, 11, 12, 99, 112, 200, 300, -100, MIN, MAX};

    public static void main(String[] args) {
        whatCanBeSung();
        inWhoseMind();
        notTheOneJustSung();
        ofLikeOnes();
        endsWhere();
        roundWithSixty();
        rightFromItsBeginning();
        singRanges();
        sungRanges();
        runUpRanges();
        runUpWithoutLines();
        runUpOfLikeOnes();
        runUpBits();
        oneBitRanges();
        oneBitIsTheOnlyOne();
        oneBitOfLikeOnes();
        oneBitNobodyLacksAny();
        oneBitMayDoHarm();
        oneBitFromLineZero();
        fewestRanges();
        fewestUpToTwo();
        fewestByOneAlone();
        fewestNever();
        eveningsRanges();
        eveningsUpToTwentyFour();
        eveningsNobodyHas();
        Check.end("ThoughtEdgesTest");
    }

    /** A SONG of twelve LINES that all SINGERS have, the next one in mind alone; one LINE that nobody HAS; none. */
    private static TuneAndWords all() {
        TuneAndWords x = new TuneAndWords();
        x.row(0, 0, 36);
        x.lines(0, 0, 0, 12);
        for (int line = 0; line < 12; line++) {
            for (int singer = 0; singer < 4; singer++) Given.learn(x, singer, 0, 2, line);
        }
        x.line(1, 0);
        Given.law(x, "a");
        return x;
    }

    private static void singing(String what, TuneAndWords x, int sl, int... due) {
        for (int i = 0; i < 4; i++) Check.due(what + ", sing " + i + " from " + sl, due[i], x.sing(sl, i));
    }

    /** It is sung, if somebody HAS its tune and somebody its words (also two); else it STICKS there. */
    private static void whatCanBeSung() {
        for (int bits = 0; bits < 256; bits++) {
            TuneAndWords x = new TuneAndWords();
            x.line(2, 0);
            x.line(2, 0);
            for (int i = 0; i < 8; i++) x.has(i % 4, 201, i / 4, bits >> i & 1);
            if (bits % 16 != 0 && bits / 16 != 0) singing("can be sung by " + bits, x, 201, 1, 0, 1, 1);
            else singing("STICKS by " + bits, x, 201, 0, 1, 1, 0);
            Check.due("begins by " + bits, bits % 16 != 0 && bits / 16 != 0 ? 1 : 0, x.begin(201));
        }
    }

    /** Those LINES of which a SINGER HAS tune or words; who has neither does not think of them. */
    private static void inWhoseMind() {
        for (int singer = 0; singer < 4; singer++) {
            for (int bits = 0; bits < 4; bits++) {
                TuneAndWords x = Given.tunes(0, 0);
                Given.learn(x, (singer + 1) % 4, 0, 2, 0);
                for (int what = 0; what < 2; what++) x.has(singer, 1, what, bits >> what & 1);
                if (bits == 0) singing("nobody thinks of it", x, 0, 1, 0, 0, 1);
                else if (bits == 3) Check.due("brought up by", singer, x.sung(0, 1, 1));
                else singing("thought of, and it STICKS", x, 0, 1, 1, 1, 1);
            }
        }
        TuneAndWords x = Given.tunes(0, 0, 0);
        x.line(1, 0);
        Given.learn(x, 0, 0, 2, 0, 2);
        Given.learn(x, 1, 1, 2, 0);
        Given.law(x, "a");
        singing("LINE 1 is in nobody's mind, 2 is not the next one", x, 0, 1, 0, 0, 1);
        singing("no other SONG's LINES come up", x, 100, 1, 0, 0, 1);
    }

    private static void notTheOneJustSung() {
        TuneAndWords x = Given.known(1);
        Given.law(x, "9");
        singing("a SONG of one LINE ENDS", x, 0, 1, 0, 0, 1);
        TuneAndWords y = Given.known(2);
        Given.law(y, "9");
        Check.holds("by turns", Given.sung(y, 0).startsWith("ababab"));
        y.has(0, 1, 0, 0);
        y.has(0, 1, 1, 0);
        singing("the other one is gone", y, 0, 1, 0, 0, 1);
    }

    /** Of like ones the least LINE; the least SINGER. */
    private static void ofLikeOnes() {
        for (int from = 0; from < 12; from++) {
            TuneAndWords x = Given.known(12);
            Given.law(x, "1");
            Check.due("the least LINE behind " + from, from == 0 ? 1 : 0, x.sung(from, 1, 0));
            for (int singer = 3; singer > 0; singer--) {
                TuneAndWords y = Given.known(12);
                for (int s = singer; s < 4; s++) Given.learn(y, s, 0, 0, from == 0 ? 1 : 0);
                for (int what = 0; what < 2; what++) y.has(0, from == 0 ? 1 : 0, what, 0);
                Given.learn(y, 3, 0, 1, from == 0 ? 1 : 0);
                Given.law(y, "1");
                Check.due("the least LINE ahead of the least SINGER", from == 0 ? 1 : 0, y.sung(from, 1, 0));
                Check.due("the least SINGER who thinks of it", singer, y.sung(from, 1, 1));
            }
        }
        TuneAndWords x = all();
        Check.holds("the least SINGER each time", Given.broughtUp(x, 0).equals("00000000000"));
        Given.law(x, "a*s");
        x.mend(2, 3, 6);
        Check.holds("the one to whom it comes most", Given.broughtUp(x, 0).equals("22222222222"));
        x.mend(1, 3, 6);
        Check.holds("of two the least", Given.broughtUp(x, 0).equals("11111111111"));
    }

    /** The LINE where: the last sung; which STICKS. */
    private static void endsWhere() {
        TuneAndWords x = Given.known(12);
        Given.law(x, "a");
        singing("ENDS at the last one", x, 0, 12, 0, 11, 12);
        singing("ENDS at the last one", x, 11, 1, 0, 11, 1);
        x.has(0, 11, 0, 0);
        singing("STICKS at the last one", x, 0, 11, 1, 11, 11);
        singing("STICKS at once", x, 11, 0, 1, 11, 0);
        x.has(0, 11, 1, 0);
        singing("ENDS ahead of it", x, 0, 11, 0, 10, 11);
        x.has(0, 0, 1, 0);
        singing("STICKS at the first one", x, 0, 0, 1, 0, 0);
        Given.law(x, "!a&!k");
        singing("STICKS at a lesser one", x, 1, 1, 1, 0, 1);
    }

    /** ROUND, if it has not come to an end with 60 LINES sung. */
    private static void roundWithSixty() {
        for (int n = 2; n <= 12; n++) {
            TuneAndWords x = Given.known(n);
            Given.law(x, "1");
            singing("ROUND by two of " + n, x, 0, 60, 2, 1, 2);
            // Each LINE so often that n of them are sung most times 60 / n.
            Given.law(x, "99-k");
            int[] due = {60, 2};
            for (int i = 0; i < 2; i++) Check.due("ROUND by " + n, due[i], x.sing(0, i));
        }
        for (int n = 2; n <= 12; n++) {
            for (int each = 1; each * n <= 72; each++) {
                TuneAndWords x = Given.known(n);
                Given.law(x, each + "-k");
                int sung = Math.min(60, n * each);
                Check.due("each of " + n + " " + each + " times: sung", sung, x.sing(0, 0));
                Check.due("each of " + n + " " + each + " times: how", sung == 60 ? 2 : 0, x.sing(0, 1));
                Check.due("each of " + n + " " + each + " times: the last one", n - 1 - (n * each - sung) % n, x.sing(0, 2));
            }
        }
        // 59 LINES: 0 thirty times, 1 twenty-nine times.
        TuneAndWords x = Given.known(2);
        Given.law(x, "k<30-a");
        singing("59: it ENDS", x, 0, 59, 0, 0, 2);
        Check.due("59: the last of them", 0, x.sung(0, 58, 0));
        Check.due("59: no more", -2, x.sung(0, 59, 0));
        Given.law(x, "k<30");
        singing("60: ROUND", x, 0, 60, 2, 1, 2);
        Check.due("60: the last of them", 1, x.sung(0, 59, 0));
        Check.due("60: who brought it up", 0, x.sung(0, 59, 1));
        Check.due("60: no more", -2, x.sung(0, 60, 0));
        Given.law(x, "k<31-a");
        singing("ROUND, though 61 would be the last", x, 0, 60, 2, 1, 2);
        Given.law(x, "k<31");
        singing("ROUND, though 62 would be the last", x, 0, 60, 2, 1, 2);
    }

    /** RIGHT: how many from its beginning on are each the next LINE of the one ahead. */
    private static void rightFromItsBeginning() {
        for (int from = 0; from < 12; from++) singing("RIGHT to the end", all(), from, 12 - from, 0, 11, 12 - from);
        TuneAndWords x = Given.known(12);
        Given.law(x, "99-k");
        Check.due("RIGHT once round", 12, x.sing(0, 3));
        Check.due("the first one alone", 1, x.sing(11, 3));
        Check.due("the first one alone", 1, x.sing(5, 3));
        // 3 0 1 2 4 ..: right again later, which doesn't count.
        TuneAndWords y = Given.known(5);
        Given.law(y, "!k");
        Check.holds("as it is sung", Given.sung(y, 3).equals("dabce"));
        Check.due("RIGHT at its beginning alone", 1, y.sing(3, 3));
        Check.holds("as it is sung", Given.sung(y, 0).equals("abcde"));
        Check.due("RIGHT to the end", 5, y.sing(0, 3));
    }

    private static void singRanges() {
        for (int what = 0; what < 4; what++) {
            int it = what;
            for (int sl : NO_LINES) House.refused("sing: LINE " + sl, USUAL, -1, x -> x.sing(sl, it));
            for (int sl : new int[] {0, 4, 100, 111}) House.changesNothing("sing", USUAL, x -> x.sing(sl, it));
        }
        for (int what : new int[] {-1, 4, MIN, MAX}) House.refused("sing: what " + what, USUAL, -1, x -> x.sing(0, what));
        TuneAndWords x = House.usual();
        singing("the first LINE", x, 0, 2, 1, 2, 2);
        singing("the last LINE of the last SONG with LINES", x, 111, 1, 1, 1, 1);
        singing("behind it", x, 112, -1, -1, -1, -1);
    }

    /** 10: BAD; NOT: there are not as many (a LINE that STICKS is none); NOT: the first one. */
    private static void sungRanges() {
        for (int what = 0; what < 2; what++) {
            int it = what;
            for (int sl : NO_LINES) House.refused("sung: LINE " + sl, USUAL, -1, x -> x.sung(sl, 0, it));
            for (int k : new int[] {-1, -2, MIN}) House.refused("sung: k " + k, USUAL, -1, x -> x.sung(0, k, it));
            for (int k : new int[] {2, 3, 59, 60, 61, MAX}) House.refused("sung: k " + k, USUAL, -2, x -> x.sung(0, k, it));
            House.refused("sung: none at all", USUAL, -2, x -> x.sung(2, 0, it));
            House.refused("sung: BAD LINE ahead of NOT", USUAL, -1, x -> x.sung(5, 60, it));
            House.changesNothing("sung", USUAL, x -> x.sung(4, 2, it));
        }
        for (int what : new int[] {-1, 2, MIN, MAX}) {
            House.refused("sung: what " + what, USUAL, -1, x -> x.sung(0, 0, what));
            House.refused("sung: BAD what ahead of NOT", USUAL, -1, x -> x.sung(0, 60, what));
        }
        TuneAndWords x = House.usual();
        Check.due("sung: the first", 0, x.sung(0, 0, 0));
        Check.due("sung: nobody brought up the first", -2, x.sung(0, 0, 1));
        Check.due("sung: the last", 1, x.sung(0, 1, 0));
        Check.due("sung: who brought it up", 0, x.sung(0, 1, 1));
        Check.due("sung: LINE 2 STICKS, it is none", -2, x.sung(0, 2, 0));
        Check.due("sung: LINE 2 STICKS, nobody brought it up", -2, x.sung(0, 2, 1));
        Check.due("sung: the only one", 4, x.sung(4, 0, 0));
        Given.addTunes(x, 2, 0, 1, 2);
        Given.learn(x, 2, 2, 2, 1, 2);
        Check.due("sung: the first of SONG 2", 1, x.sung(201, 0, 0));
        Check.due("sung: the second of SONG 2", 2, x.sung(201, 1, 0));
        Check.due("sung: who brought it up in SONG 2", 2, x.sung(201, 1, 1));
        TuneAndWords y = all();
        for (int k = 0; k < 12; k++) Check.due("sung: " + k, k, y.sung(0, k, 0));
        Check.due("sung: twelve are all", -2, y.sung(0, 12, 0));
    }

    private static void runUpRanges() {
        for (int what = 0; what < 4; what++) {
            int it = what;
            for (int song : new int[] {-1, 3, 100, MIN, MAX}) House.refused("runUp: SONG " + song, USUAL, -1, x -> x.runUp(song, it));
            House.changesNothing("runUp", USUAL, x -> x.runUp(0, it) + x.runUp(1, it));
        }
        for (int what : new int[] {-1, 4, MIN, MAX}) {
            House.refused("runUp: what " + what, USUAL, -1, x -> x.runUp(0, what));
            House.refused("runUp: BAD ahead of NOT", USUAL, -1, x -> x.runUp(2, what));
        }
    }

    private static void up(String what, TuneAndWords x, int song, int... due) {
        for (int i = 0; i < 4; i++) Check.due(what + ", runUp " + i, due[i], x.runUp(song, i));
    }

    /** 11: NOT (0, 1): no LINES. */
    private static void runUpWithoutLines() {
        House.refused("runUp: no LINES", USUAL, -2, x -> x.runUp(2, 0));
        House.refused("runUp: no LINES", USUAL, -2, x -> x.runUp(2, 1));
        House.refused("runUp: no LINES, no bits", USUAL, 0, x -> x.runUp(2, 2));
        House.refused("runUp: no LINES, nobody lacks them", USUAL, 0, x -> x.runUp(2, 3));
        for (int song = 0; song < 3; song++) up("a new object", new TuneAndWords(), song, -2, -2, 0, 0);
        up("one LINE that nobody HAS", all(), 1, 0, 0, 0, 1);
    }

    /** 11: of like ones the least. */
    private static void runUpOfLikeOnes() {
        up("twelve from the first", all(), 0, 0, 12, 4095, 0);
        TuneAndWords none = Given.tunes(0, 0, 0, 0, 0, 0, 0, 0, 0, 0, 0, 0);
        up("none from any: the least", none, 0, 0, 0, 0, 4095);
        Given.learn(none, 2, 0, 2, 11);
        up("the last one alone", none, 0, 11, 1, 2048, 2047);
        Given.learn(none, 1, 0, 2, 9);
        Given.law(none, "a");
        up("two like ones: the least", none, 0, 9, 1, 2048 + 512, 4095 - 2048 - 512);
        Given.learn(none, 1, 0, 2, 3, 4, 6, 7);
        up("two by two: the least", none, 0, 3, 2, 8 + 16 + 64 + 128 + 512 + 2048, 4095 - 8 - 16 - 64 - 128 - 512 - 2048);
        Given.learn(none, 1, 0, 2, 8);
        up("four in a row", none, 0, 6, 4, 8 + 16 + 64 + 128 + 256 + 512 + 2048, 7 + 32 + 1024);
        for (int from = 0; from < 12; from++) {
            TuneAndWords x = all();
            for (int line = 0; line < from; line++) {
                for (int singer = 0; singer < 4; singer++) x.has(singer, line, 0, 0);
            }
            up("from " + from + " on", x, 0, from, 12 - from, 4096 - (1 << from), (1 << from) - 1);
        }
    }

    /** 11: the LINES that are sung RIGHT from some beginning; NOBODY: those that can't be sung. */
    private static void runUpBits() {
        for (int bits = 0; bits < 64; bits++) {
            TuneAndWords x = Given.tunes(0, 0, 0, 0, 0, 0);
            for (int line = 0; line < 6; line++) {
                if ((bits >> line & 1) == 1) Given.learn(x, line % 4, 0, 2, line);
                else if (line % 3 > 0) Given.learn(x, line % 4, 0, line % 3 - 1, line);
            }
            Check.due("sung RIGHT from some beginning", bits, x.runUp(0, 2));
            Check.due("NOBODY", 63 - bits, x.runUp(0, 3));
            TuneAndWords two = Given.tunes(0, 0, 0, 0, 0, 0);
            for (int line = 0; line < 6; line++) {
                Given.learn(two, line % 3, 0, line % 2, line);
                if ((bits >> line & 1) == 1) Given.learn(two, 3, 0, 1 - line % 2, line);
            }
            Check.due("sung RIGHT by two", bits, two.runUp(0, 2));
            Check.due("NOBODY: not what two can sing", 63 - bits, two.runUp(0, 3));
        }
    }

    private static void oneBitRanges() {
        for (int what = 0; what < 4; what++) {
            int it = what;
            for (int song : new int[] {-1, 3, 100, MIN, MAX}) House.refused("oneBit: SONG " + song, USUAL, -1, x -> x.oneBit(song, it));
            House.changesNothing("oneBit", USUAL, x -> x.oneBit(0, it) + x.oneBit(1, it));
            House.refused("oneBit: no LINES", USUAL, -2, x -> x.oneBit(2, it));
        }
        for (int what : new int[] {-1, 4, MIN, MAX}) {
            House.refused("oneBit: what " + what, USUAL, -1, x -> x.oneBit(0, what));
            House.refused("oneBit: BAD ahead of NOT, no LINES", USUAL, -1, x -> x.oneBit(2, what));
            House.refused("oneBit: BAD ahead of NOT, nobody lacks any", ALL, -1, x -> x.oneBit(0, what));
        }
    }

    private static void oneBit(String what, TuneAndWords x, int song, int bit, int then) {
        Check.due(what + ": SINGER", bit / 24, x.oneBit(song, 0));
        Check.due(what + ": LINE", bit / 2 % 12, x.oneBit(song, 1));
        Check.due(what + ": which", bit % 2, x.oneBit(song, 2));
        Check.due(what + ": how many then", then, x.oneBit(song, 3));
    }

    private static void lose(TuneAndWords x, int bit) {
        x.has(bit / 24, bit / 2 % 12, bit % 2, 0);
    }

    /** 12: a bit that a SINGER lacks, from the first to the last of the 96. */
    private static void oneBitIsTheOnlyOne() {
        for (int bit = 0; bit < 96; bit++) {
            TuneAndWords x = all();
            lose(x, bit);
            oneBit("only " + bit + " is lacked", x, 0, bit, 12);
            // The whole LINE's tune, or words, are lacked: whoever gets it first.
            for (int singer = 0; singer < 4; singer++) lose(x, bit % 24 + 24 * singer);
            oneBit("all four lack " + bit, x, 0, bit % 24, 12);
        }
    }

    /** 12: by SINGERS, LINES, tune ahead of words; of like ones the first. */
    private static void oneBitOfLikeOnes() {
        for (int bit = 0; bit < 95; bit++) {
            for (int other : new int[] {bit + 1, 95, bit + (95 - bit) / 2 + 1}) {
                TuneAndWords x = all();
                lose(x, bit);
                lose(x, Math.min(95, other));
                oneBit("like ones: " + bit + " and " + other, x, 0, bit, 12);
            }
        }
        oneBit("none helps: the first", Given.tunes(0, 0), 0, 0, 0);
        oneBit("of a SONG of its own", all(), 1, 0, 0);
    }

    /** 12: NOT: nobody lacks any. */
    private static void oneBitNobodyLacksAny() {
        for (int what = 0; what < 4; what++) {
            int it = what;
            House.refused("oneBit: nobody lacks any", ALL, -2, x -> x.oneBit(0, it));
            House.refused("oneBit: no LINES", House.NEW, -2, x -> x.oneBit(0, it));
        }
        TuneAndWords x = all();
        x.line(2, 0);
        for (int singer = 0; singer < 4; singer++) Given.learn(x, singer, 2, 2, 0);
        Check.due("oneBit: of one LINE nobody lacks any", -2, x.oneBit(2, 3));
        x.has(3, 200, 1, 0);
        oneBit("the last SINGER lacks the words", x, 2, 3 * 24 + 1, 1);
    }

    /** 12: that by which RIGHT becomes most, though it be less than it is. */
    private static void oneBitMayDoHarm() {
        TuneAndWords x = Given.tunes(0, 1, 2);
        for (int singer = 0; singer < 4; singer++) Given.learn(x, singer, 0, 2, 0, 1, 2);
        for (int what = 0; what < 2; what++) x.has(3, 2, what, 0);
        x.mend(3, 3, 9);
        // To SINGER 3 what is not the next one comes most: LINE 2 ahead of LINE 1, if she has any of it.
        Given.law(x, "s>5?!k*(9-a);a");
        Check.due("RIGHT as it is", 3, x.sing(0, 3));
        oneBit("less than it is", x, 0, 3 * 24 + 4, 1);
        x.has(3, 2, 0, 1);
        Check.due("less than it was", 1, x.sing(0, 3));
        oneBit("nothing mends it", x, 0, 3 * 24 + 5, 1);
        x.has(3, 2, 0, 0);
        for (int what = 0; what < 2; what++) x.has(3, 1, what, 0);
        oneBit("the first one that does no harm", x, 0, 3 * 24 + 2, 3);
        Check.due("fewest: none is needed, though one would do harm", 0, x.fewest(0));
    }

    /** 12: RIGHT from LINE 0, not from where the run up would be. */
    private static void oneBitFromLineZero() {
        TuneAndWords x = Given.tunes(0, 1, 2, 3, 4);
        Given.learn(x, 0, 0, 2, 2, 3);
        Given.learn(x, 0, 0, 0, 4);
        Check.due("the run up", 2, x.runUp(0, 0));
        oneBit("none is enough for LINE 0", x, 0, 0, 0);
        Given.learn(x, 0, 0, 0, 0);
        oneBit("the words of LINE 0", x, 0, 1, 1);
    }

    private static void fewestRanges() {
        for (int song : new int[] {-1, 3, 100, MIN, MAX}) House.refused("fewest: SONG " + song, USUAL, -1, x -> x.fewest(song));
        for (int song = 0; song < 3; song++) {
            int it = song;
            House.changesNothing("fewest", USUAL, x -> x.fewest(it));
            Check.due("fewest: no LINES", 0, new TuneAndWords().fewest(song));
        }
        House.refused("fewest: no LINES", USUAL, 0, x -> x.fewest(2));
    }

    /** 13: 0 .. 2; NOT: more. */
    private static void fewestUpToTwo() {
        for (int n = 1; n <= 12; n++) {
            for (int lost = 0; lost < 5 && lost <= 2 * n; lost++) {
                TuneAndWords x = Given.known(n);
                Given.law(x, "a");
                // From the last LINE back, a LINE between if there is one; nobody else has any.
                for (int i = 0; i < lost; i++) x.has(0, n - 1 - i % n, i < n ? 1 : 0, 0);
                int due = lost <= 2 ? lost : -2;
                Check.due("fewest: " + lost + " of " + n + " LINES", due, x.fewest(0));
            }
        }
        TuneAndWords x = Given.tunes(0);
        Check.due("fewest: both bits of the only LINE", 2, x.fewest(0));
        x.has(2, 0, 1, 1);
        Check.due("fewest: one bit of the only LINE", 1, x.fewest(0));
        x.has(3, 0, 0, 1);
        Check.due("fewest: none", 0, x.fewest(0));
        x.line(0, 0);
        Check.due("fewest: both bits of the last LINE", 2, x.fewest(0));
        x.line(0, 0);
        Check.due("fewest: more", -2, x.fewest(0));
    }

    /** 13: bits of one SINGER alone help: of each, from the first to the last. */
    private static void fewestByOneAlone() {
        for (int singer = 0; singer < 4; singer++) {
            for (int line = 1; line < 12; line++) {
                TuneAndWords x = new TuneAndWords();
                for (int i = 0; i <= line; i++) {
                    x.line(0, 0);
                    Given.learn(x, (singer + 1) % 4, 0, 2, i);
                    if (i < line) Given.learn(x, singer, 0, 2, i);
                }
                x.mend(singer, 3, 9);
                Given.law(x, "a*(s=9)");
                Check.due("fewest: one bit of SINGER " + singer + " at " + line, 1, x.fewest(0));
                x.has(singer, line - 1, 0, 0);
                Check.due("fewest: one bit still", 1, x.fewest(0));
                x.has(singer, line - 1, 1, 0);
                Check.due("fewest: one bit of each of two LINES", line > 1 ? 2 : 1, x.fewest(0));
            }
        }
    }

    /** 13: NOT: never. */
    private static void fewestNever() {
        TuneAndWords x = all();
        Given.law(x, "0");
        Check.due("fewest: none comes up, never", -2, x.fewest(0));
        Given.law(x, "!a");
        Check.due("fewest: always another one, never", -2, x.fewest(0));
        Check.due("fewest: nobody lacks any, NOT", -2, x.oneBit(0, 0));
        Given.law(x, "a");
        Check.due("fewest: none is needed", 0, x.fewest(0));
        TuneAndWords y = Given.known(1);
        Given.law(y, "0");
        Check.due("fewest: one LINE is WHOLE", 0, y.fewest(0));
        y.has(0, 0, 0, 0);
        Check.due("fewest: one LINE by one bit", 1, y.fewest(0));
    }

    private static void eveningsRanges() {
        for (int song : new int[] {-1, 3, 100, MIN, MAX}) House.refused("evenings: SONG " + song, USUAL, -1, x -> x.evenings(song, 0));
        for (int singer : new int[] {-1, 4, 100, MIN, MAX}) {
            House.refused("evenings: SINGER " + singer, USUAL, -1, x -> x.evenings(0, singer));
            House.refused("evenings: BAD SINGER ahead of no LINES", USUAL, -1, x -> x.evenings(2, singer));
        }
        for (int singer = 0; singer < 4; singer++) {
            int it = singer;
            House.refused("evenings: no LINES", USUAL, 0, x -> x.evenings(2, it));
            House.changesNothing("evenings", USUAL, x -> x.evenings(0, it));
            Check.due("evenings: HAS all", 0, all().evenings(0, singer));
        }
    }

    /** 14: 0 .. 24. */
    private static void eveningsUpToTwentyFour() {
        for (int singer = 0; singer < 4; singer++) {
            TuneAndWords x = new TuneAndWords();
            for (int line = 0; line < 12; line++) {
                x.line(0, 0);
                x.has((singer + 1) % 4, line, 0, 1);
                x.has((singer + 1 + line % 3) % 4, line, 1, 1);
            }
            Check.due("evenings: all 24", 24, x.evenings(0, singer));
            for (int bit = 0; bit < 24; bit++) {
                x.has(singer, bit / 2, bit % 2, 1);
                Check.due("evenings: less what it HAS", 23 - bit, x.evenings(0, singer));
            }
        }
        TuneAndWords x = Given.known(1);
        Check.due("evenings: two of one LINE", 2, x.evenings(0, 3));
        Check.due("evenings: none, it HAS all", 0, x.evenings(0, 0));
    }

    /** 14: NOT: somebody must have what it lacks, and nobody has. */
    private static void eveningsNobodyHas() {
        for (int bit = 0; bit < 24; bit++) {
            TuneAndWords x = Given.known(12);
            x.has(0, bit / 2, bit % 2, 0);
            for (int singer = 0; singer < 4; singer++) {
                int it = singer, lost = bit;
                House.Made state = () -> {
                    TuneAndWords y = Given.known(12);
                    y.has(0, lost / 2, lost % 2, 0);
                    return y;
                };
                Check.due("evenings: nobody HAS bit " + bit, -2, x.evenings(0, singer));
                if (bit % 23 == 0) House.refused("evenings: nobody HAS bit " + bit, state, -2, y -> y.evenings(0, it));
            }
            x.has(2, bit / 2, bit % 2, 1);
            Check.due("evenings: one other HAS it", 1, x.evenings(0, 0));
            Check.due("evenings: it HAS that itself, the rest another one", 23, x.evenings(0, 2));
            Check.due("evenings: by two others", 24, x.evenings(0, 3));
        }
    }
}
