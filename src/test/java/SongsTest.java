/** Promises 1 to 8: a new object, songs, singers, the law. */
final class SongsTest {
    public static void main(String[] args) {
        promise1();
        promise2();
        promise3();
        promise4();
        promise5();
        promise6();
        promise7();
        promise8();
        namesOfTheLaw();
        linesOfTheLaw();
        operatorsOfTheLaw();
        faults();
        Check.end("SongsTest");
    }

    private static void promise1() {
        Check.due("BAD", -1, TuneAndWords.BAD);
        Check.due("NOT", -2, TuneAndWords.NOT);
        Check.due("FULL", -3, TuneAndWords.FULL);
        Check.due("STATE", -5, TuneAndWords.STATE);
        Check.due("VOID", -2000000000, TuneAndWords.VOID);
        TuneAndWords x = new TuneAndWords();
        for (int what = 0; what <= 5; what++) Check.due("new: count", 0, x.count(what));
        for (int song = 0; song < 3; song++) Check.due("new: lines", 0, x.of(song, 5));
        for (int singer = 0; singer < 4; singer++) Check.due("new: sure", 5, x.of(singer, 3));
        Check.due("new: forgets", 0, x.of(0, 4));
        for (int what = 0; what < 4; what++) Check.due("new: led", 0, x.led(what));
        for (int shelf = 0; shelf < 6; shelf++) Check.due("new: shelf", -11, x.taken(shelf, 0));
        Check.due("new: trace", -1, x.trace(0));
        Check.due("new: back", -5, x.back());
    }

    private static void promise2() {
        TuneAndWords x = new TuneAndWords();
        Check.due("line", 0, x.line(1, 123));
        Check.due("tune", 1, x.of(100, 0));
        Check.due("word", 2, x.of(100, 1));
        Check.due("rhyme", 3, x.of(100, 2));
        int[] bad = {-1, 8, 80, 800, 778, 787, 877, 1000, Integer.MIN_VALUE, Integer.MAX_VALUE, -111};
        for (int twr : bad) Check.due("line bad " + twr, -1, x.line(1, twr));
        Check.due("line bad song", -1, x.line(3, 0));
        Check.due("line bad song", -1, x.line(-1, 0));
        for (int i = 1; i < 12; i++) Check.due("line " + i, i, x.line(1, 777));
        Check.due("line full", -3, x.line(1, 0));
        Check.due("line bad ahead of full", -1, x.line(1, 8));
        Check.due("another song has room", 0, x.line(2, 0));
        Check.due("lines of all", 13, x.count(0));
    }

    private static void promise3() {
        TuneAndWords x = new TuneAndWords();
        Check.due("nothing there", 0, x.lines(0, 1, 0, 1));
        Given.row(x, 1, 9, 1, 2, 3, 4, 5, 6, 7, 0);
        Check.due("two and a piece", 2, x.lines(0, 1, 1, 12));
        Check.due("tune", 4, x.of(1, 0));
        Check.due("word", 5, x.of(1, 1));
        Check.due("rhyme", 6, x.of(1, 2));
        Check.due("n is enough", 1, x.lines(0, 1, 1, 1));
        Check.due("one is not as it may be", 0, x.lines(0, 1, 0, 1));
        Check.due("i below 0", 0, x.lines(0, 1, -1, 1));
        Check.due("i far below 0", 0, x.lines(0, 1, Integer.MIN_VALUE, 1));
        Check.due("i at the end", 0, x.lines(0, 1, 9, 1));
        Check.due("within a three", 0, x.lines(0, 1, 7, 1));
        Check.due("i that wraps", 0, x.lines(0, 1, Integer.MAX_VALUE, 12));
        Given.row(x, 2, 1, 1, 1, 1, 1, -1, 1, 1, 1);
        Check.due("those ahead of a bad one", 1, x.lines(0, 2, 0, 3));
        Check.due("lines", 4, x.of(0, 5));
        x.row(3, 0, 60);
        Check.due("full", 8, x.lines(0, 3, 0, 12));
        Check.due("full at first", 0, x.lines(0, 3, 0, 12));
        Check.due("bad n", -1, x.lines(1, 3, 0, 0));
        Check.due("bad n", -1, x.lines(1, 3, 0, 13));
        Check.due("bad song", -1, x.lines(3, 3, 0, 1));
        Check.due("bad song", -1, x.lines(-1, 3, 0, 1));
        Check.due("bad shelf", -1, x.lines(1, 6, 0, 1));
        Check.due("bad shelf", -1, x.lines(1, -1, 0, 1));
        for (int sort = 1; sort <= 4; sort++) {
            x.row(4, sort, 30);
            Check.due("no bytes", -12, x.lines(1, 4, 0, 1));
        }
        x.body(0);
        x.keep(4, 0);
        Check.due("a body", -12, x.lines(1, 4, 0, 1));
        Check.due("bad ahead of -12", -1, x.lines(1, 4, 0, 13));
        Check.due("nothing came", 0, x.of(1, 5));
    }

    private static void promise4() {
        TuneAndWords x = Given.tunes(1, 2);
        Check.due("as it was", 0, x.has(3, 1, 1, 1));
        Check.due("as it was", 1, x.has(3, 1, 1, 1));
        Check.due("words of it", 8, x.of(1, 7));
        Check.due("no tune of it", 0, x.of(1, 6));
        Check.due("as it was", 0, x.has(0, 1, 0, 1));
        Check.due("as it was", 1, x.has(3, 1, 1, 0));
        Check.due("as it was", 0, x.has(3, 1, 1, 0));
        Check.due("bits", 1, x.count(1));
        Check.due("bad singer", -1, x.has(4, 0, 0, 1));
        Check.due("bad singer", -1, x.has(-1, 0, 0, 1));
        Check.due("bad line", -1, x.has(0, 2, 0, 1));
        Check.due("bad line", -1, x.has(0, -1, 0, 1));
        Check.due("bad line", -1, x.has(0, 100, 0, 1));
        Check.due("bad line", -1, x.has(0, 300, 0, 1));
        Check.due("bad what", -1, x.has(0, 0, 2, 1));
        Check.due("bad what", -1, x.has(0, 0, -1, 1));
        Check.due("bad v", -1, x.has(0, 0, 0, 2));
        Check.due("bad v", -1, x.has(0, 0, 0, -1));
        Check.due("bits", 1, x.count(1));
        Check.due("no change", 0, x.count(3));
    }

    private static void promise5() {
        TuneAndWords x = Given.tunes(1, 2);
        Check.due("tune", 2, x.mend(1, 0, 7));
        Check.due("word", 0, x.mend(1, 1, 6));
        Check.due("rhyme", 0, x.mend(1, 2, 5));
        Check.due("sure", 5, x.mend(3, 3, 9));
        Check.due("forgets", 0, x.mend(0, 4, 12));
        Check.due("tune now", 7, x.mend(1, 0, 7));
        Check.due("word now", 6, x.of(1, 1));
        Check.due("rhyme now", 5, x.of(1, 2));
        Check.due("sure now", 9, x.mend(3, 3, 0));
        Check.due("forgets now", 12, x.mend(0, 4, 0));
        for (int what = 0; what < 3; what++) {
            Check.due("bad v", -1, x.mend(0, what, 8));
            Check.due("bad v", -1, x.mend(0, what, -1));
            Check.due("bad line", -1, x.mend(2, what, 0));
            Check.due("bad line", -1, x.mend(-1, what, 0));
            Check.due("bad line", -1, x.mend(100, what, 0));
        }
        Check.due("bad singer", -1, x.mend(4, 3, 0));
        Check.due("bad singer", -1, x.mend(-1, 3, 0));
        Check.due("bad sure", -1, x.mend(0, 3, 10));
        Check.due("bad sure", -1, x.mend(0, 3, -1));
        Check.due("bad forgets", -1, x.mend(0, 4, 13));
        Check.due("bad forgets", -1, x.mend(0, 4, -1));
        Check.due("bad number", -1, x.mend(1, 4, 1));
        Check.due("bad what", -1, x.mend(0, 5, 0));
        Check.due("bad what", -1, x.mend(0, -1, 0));
        Check.due("changes", 7, x.count(3));
    }

    private static void promise6() {
        TuneAndWords x = Given.tunes(3, 4);
        x.line(2, 765);
        Given.learn(x, 1, 0, 0, 1);
        Given.learn(x, 3, 0, 0, 1);
        Given.learn(x, 2, 2, 1, 0);
        Check.due("tune", 4, x.of(1, 0));
        Check.due("word", 6, x.of(200, 1));
        Check.due("rhyme", 5, x.of(200, 2));
        Check.due("sure", 5, x.of(3, 3));
        Check.due("forgets", 0, x.of(0, 4));
        Check.due("size", 2, x.of(0, 5));
        Check.due("size", 0, x.of(1, 5));
        Check.due("size", 1, x.of(2, 5));
        Check.due("tune had", 10, x.of(1, 6));
        Check.due("words had", 0, x.of(1, 7));
        Check.due("words had", 4, x.of(200, 7));
        int[][] bad = {{2, 0}, {100, 1}, {-1, 2}, {300, 0}, {4, 3}, {-1, 3}, {1, 4}, {-1, 4}, {3, 5}, {-1, 5},
            {2, 6}, {201, 7}, {0, 8}, {0, -1}, {-100, 6}, {Integer.MIN_VALUE, 7}, {Integer.MAX_VALUE, 0}};
        for (int[] b : bad) Check.due("of bad " + b[0] + " " + b[1], -1, x.of(b[0], b[1]));
    }

    private static void promise7() {
        TuneAndWords x = new TuneAndWords();
        Check.due("bad letter", -1, x.feed(-1));
        Check.due("bad letter", -1, x.feed(256));
        for (int i = 1; i <= 120; i++) Check.due("feed", i, x.feed(i == 1 ? 255 : 0));
        Check.due("full", -3, x.feed(97));
        Check.due("bad ahead of full", -1, x.feed(256));
        Check.due("on the tape", 120, x.count(2));
    }

    private static void promise8() {
        TuneAndWords x = Given.known(3);
        Check.due("a law", 1, Given.law(x, "a"));
        Check.due("empty then", 0, x.count(2));
        Check.due("by it", 3, x.sing(0, 3));
        Check.due("a fault", -101, Given.law(x, "5x"));
        Check.due("empty then", 0, x.count(2));
        Check.due("by the one before", 3, x.sing(0, 0));
        Check.due("nothing on it", -100, x.law());
        Check.due("none comes up", 1, Given.law(x, "0"));
        Check.due("by it", 1, x.sing(0, 0));
        StringBuilder longest = new StringBuilder("1");
        for (int i = 0; i < 59; i++) longest.append("+1");
        Check.due("119 bytes", 1, Given.law(x, longest.toString()));
        Check.due("by it", 60, x.sing(0, 0));
        Check.due("120 bytes, one short", -220, Given.law(x, longest + "-"));
    }

    /** How much is thought of LINE 1 behind LINE 0, by a law; found by comparing with a number. */
    private static boolean gives(TuneAndWords x, String text, int value) {
        String law = "(" + text + "=" + (value < 0 ? "-" + -value : value) + ")*5";
        Check.due("law " + law, 1, Given.law(x, law));
        return x.sung(0, 1, 0) == 1;
    }

    private static void namesOfTheLaw() {
        TuneAndWords x = Given.known(2);
        x.mend(1, 0, 0);
        x.mend(0, 3, 7);
        Check.holds("a", gives(x, "a", 1));
        Check.holds("t", gives(x, "t", 1));
        Check.holds("w", gives(x, "w", 0));
        Check.holds("r", gives(x, "r", 0));
        Check.holds("s", gives(x, "s", 7));
        Check.holds("k", gives(x, "k", 0));
        x.mend(1, 0, 1);
        x.mend(1, 1, 0);
        Check.holds("no t", gives(x, "t", 0));
        Check.holds("w", gives(x, "w", 1));
        x.mend(1, 1, 1);
        x.mend(1, 2, 0);
        Check.holds("no w", gives(x, "w", 0));
        Check.holds("r", gives(x, "r", 1));
        Check.due("a is for the next one alone", 1, Given.law(x, "!a"));
        Check.due("so not 1 behind 0", 1, x.sing(0, 0));
        Check.due("but 0 behind 1", 60, x.sing(1, 0) + 58);
        Check.due("k goes up", 1, Given.law(x, "3-k"));
        Check.due("each thrice", 6, x.sing(0, 0));
        TuneAndWords one = Given.known(2);
        Check.due("a times 8, less k times 3", 0, one.sing(0, 1));
        // 0, 1 (8), then 0 less 3: nothing.
        Check.due("without a text", 2, one.sing(0, 0));
        one.mend(1, 1, 0);
        one.mend(1, 0, 0);
        // back to 0 now: 1 + 2 - 3 is 0; with the rhyme it's 1.
        Check.due("without a text", 2, one.sing(0, 0));
        one.mend(1, 2, 0);
        Check.due("without a text", 3, Math.min(3, one.sing(0, 0)));
    }

    private static void linesOfTheLaw() {
        TuneAndWords x = Given.known(2);
        Check.due("two lines", 1, Given.law(x, "0?9;1"));
        Check.due("the second counts", 60, x.sing(0, 0));
        Check.due("two lines", 1, Given.law(x, "1?0;1"));
        Check.due("the first counts", 1, x.sing(0, 0));
        Check.due("two lines", 1, Given.law(x, "0;1"));
        Check.due("without a first E it counts", 1, x.sing(0, 0));
        Check.due("none counts", 1, Given.law(x, "0?9;a<0?9;(0|0)?9"));
        Check.due("none counts: 0", 1, x.sing(0, 0));
        Check.due("all of a second E", 1, Given.law(x, "1?0|0-1&!(!(!(0)));0"));
        Check.due("all of a second E", 60, x.sing(0, 0));
        Check.due("the last counts", 1, Given.law(x, "0?9;a<0?9;-1?9"));
        Check.due("below 0 is not 0", 60, x.sing(0, 0));
        Check.due("three lines", 1, Given.law(x, "a?0-1;!a?5;9"));
        Check.due("by cases", 1, x.sing(0, 0));
        Check.due("by cases", 2, x.sing(1, 0));
    }

    private static void operatorsOfTheLaw() {
        TuneAndWords x = Given.known(2);
        String[] ones = {"2+3*4=14", "(2+3)*4=20", "10-3-2=5", "7/2=3", "-7/2=-3", "7%3=1", "-7%3=-1", "5/0=0",
            "5%0=0", "24/4/2=3", "!0", "!!7", "!7=0", "2<3", "3>2", "!(2<2)", "!(2>2)", "(5&7)=1", "(5|7)=1",
            "(0|7)=1", "!(0&7)", "0|0|3", "1&2&3", "0&1|1", "1|1&0", "1=1&2", "--5=5", "-5<0", "-2*-3=6", "!-0",
            "9999*9999*9999*9999*0=0", "9998+1=9999", "0007=7", "9999*9999*9999<0", "(1<2)+(2>1)=2",
            "((((((3))))))=3", "!(!(!(0)))", "-(-(-3))=-3", "2-(3-4)=3", "2--3=5", "2-!3=2", "1+1=2|0", "(2=2)=1", "(!0)=1",
            "(1<2)=1", "(2>1)=1", "(3|0)=1", "(3&3)=1"};
        for (String one : ones) {
            Check.due(one, 1, Given.law(x, one));
            Check.due(one + " gives", 2, Math.min(2, x.sing(0, 0)));
            Check.due(one, 1, Given.law(x, one + "?0;5"));
            Check.due(one + " is not 0", 1, x.sing(0, 0));
        }
        Check.due("ints wrap", 1, Given.law(x, "2*1024*1024*1024-1>0&2*1024*1024*1024<0&2*1024*1024*1024/-1<0"));
        Check.due("ints wrap", 60, x.sing(0, 0));
    }

    private static void fault(String text, int place) {
        Check.due("fault of " + text, -100 - place, Given.law(new TuneAndWords(), text));
    }

    private static void faults() {
        fault("", 0);
        fault(" ", 0);
        fault("x", 0);
        fault("A", 0);
        fault(";", 0);
        fault("?", 0);
        fault(")", 0);
        fault("+1", 0);
        fault("1+", 2);
        fault("1 +1", 1);
        fault("1;", 2);
        fault("1;;1", 2);
        fault("1?", 2);
        fault("1?2?3", 3);
        fault("1?;2", 2);
        fault("(1?2)", 2);
        fault("(1;2)", 2);
        fault("(1", 2);
        fault("()", 1);
        fault("1)", 1);
        fault("(1))", 3);
        fault("12345", 4);
        fault("0000a", 4);
        fault("1234a", 4);
        fault("1a", 1);
        fault("aa", 1);
        fault("a1", 1);
        fault("1<2<3", 3);
        fault("1<2=3", 3);
        fault("1>2", -101);
        fault("1<2&3>4|5=6", -101);
        fault("(1<2)<3", -101);
        fault("1!2", 1);
        fault("1!", 1);
        fault("1(", 1);
        fault("*1", 0);
        fault("1**2", 2);
        fault("1&&2", 2);
        fault("1==2", 2);
        fault("((((((", 6);
        fault("(((((((", 6);
        fault("!!!!!!a", -101);
        fault("!!!!!!!a", 6);
        fault("------1", -101);
        fault("-------1", 6);
        fault("(-!(-!1))", -101);
        fault("(-!(-!(", 6);
        fault("(-!(-!-1", 6);
        fault("!!!!!!a&!!!!!!a&((((((a))))))", -101);
        fault("1--------1", 8);
        fault("1-------1", -101);
        fault("(((((1)))))+!(((((1)))))", -101);
        fault("(((((1)))))+!((((((1", 18);
        fault("\u00ff", 0);
        fault("1\u0000", 1);
    }
}
