/** Promises 9 to 14: singings in thought. */
final class ThoughtTest {
    public static void main(String[] args) {
        promise9();
        promise9Sticks();
        promise9Round();
        sixtyLines();
        promise10();
        whoBringsItUp();
        promise11();
        promise12();
        promise13();
        fewestAgainstAllPairs();
        promise14();
        Check.end("ThoughtTest");
    }

    private static void singing(String name, TuneAndWords x, int sl, int sung, int how, int where, int right) {
        Check.due(name + ": sung", sung, x.sing(sl, 0));
        Check.due(name + ": how", how, x.sing(sl, 1));
        Check.due(name + ": where", where, x.sing(sl, 2));
        Check.due(name + ": right", right, x.sing(sl, 3));
    }

    private static void promise9() {
        TuneAndWords x = Given.known(4);
        Given.law(x, "a");
        singing("ends", x, 0, 4, 0, 3, 4);
        singing("ends", x, 2, 2, 0, 3, 2);
        // Behind 1 comes 3, by its tune; behind 3 none.
        x.mend(3, 0, 1);
        Given.law(x, "a+t*2");
        singing("astray", x, 0, 60, 2, 1, 2);
        Check.holds("astray by like tunes", Given.sung(x, 0).startsWith("abdbdb"));
        Check.due("bad line", -1, x.sing(4, 0));
        Check.due("bad line", -1, x.sing(-1, 0));
        Check.due("bad line", -1, x.sing(100, 0));
        Check.due("bad line", -1, x.sing(300, 0));
        Check.due("bad what", -1, x.sing(0, 4));
        Check.due("bad what", -1, x.sing(0, -1));
        Check.due("nothing told", 0, x.led(0));
        TuneAndWords likes = Given.known(5);
        Given.law(likes, "1-k");
        Check.holds("of like ones the least line", Given.sung(likes, 2).equals("cabde"));
        singing("least lines", likes, 2, 5, 0, 4, 1);
        Given.law(likes, "(a+2)*(!k)");
        Check.holds("the most", Given.sung(likes, 2).equals("cdeab"));
        singing("the most", likes, 2, 5, 0, 1, 3);
    }

    private static void promise9Sticks() {
        TuneAndWords x = Given.tunes(0, 1, 2, 3, 4);
        Given.law(x, "a");
        singing("nobody has anything", x, 0, 0, 1, 0, 0);
        Given.learn(x, 0, 0, 0, 0, 1, 2, 3);
        singing("no words", x, 0, 0, 1, 0, 0);
        Given.learn(x, 3, 0, 1, 0, 1);
        singing("two together, as far as words go", x, 0, 2, 1, 2, 2);
        singing("sticks at once", x, 2, 0, 1, 2, 0);
        Given.learn(x, 2, 0, 1, 2, 3);
        singing("4 is in nobody's mind", x, 0, 4, 0, 3, 4);
        Given.learn(x, 1, 0, 1, 4);
        singing("words alone bring it up", x, 0, 4, 1, 4, 4);
        Given.learn(x, 1, 0, 0, 4);
        singing("all", x, 0, 5, 0, 4, 5);
        TuneAndWords y = Given.tunes(0, 1);
        y.line(1, 0);
        Given.learn(y, 0, 0, 2, 0, 1);
        Given.learn(y, 1, 1, 0, 0);
        Given.law(y, "1");
        singing("of another song", y, 100, 0, 1, 0, 0);
        Given.learn(y, 2, 1, 1, 0);
        singing("of another song", y, 100, 1, 0, 0, 1);
    }

    private static void promise9Round() {
        TuneAndWords x = Given.known(3);
        Given.law(x, "a*2+1");
        singing("round", x, 0, 60, 2, 2, 3);
        singing("from 1", x, 1, 60, 2, 0, 2);
        Check.holds("in turns", Given.sung(x, 1).equals("bca".repeat(20)));
        Check.due("sixty of them", -2, x.sung(0, 60, 0));
        Given.law(x, "1");
        Check.holds("never the one just sung", Given.sung(x, 2).equals("ca" + "ba".repeat(29)));
    }

    /** With 60 LINES sung it is ROUND, even if none would come up behind, or one that sticks; not with 59. */
    private static void sixtyLines() {
        TuneAndWords x = Given.known(12);
        Given.law(x, "5-k");
        singing("60, and none would come up", x, 0, 60, 2, x.sung(0, 59, 0), x.sing(0, 3));
        Given.law(x, "6-k");
        Check.due("60, and one would", 2, x.sing(0, 1));
        TuneAndWords y = Given.known(2);
        Given.law(y, "k<30");
        singing("60, by turns", y, 0, 60, 2, 1, 2);
        Given.law(y, "k<30-a");
        singing("59 and it ends", y, 0, 59, 0, 0, 2);
        Check.due("no 60th", -2, y.sung(0, 59, 0));
        TuneAndWords z = Given.known(2);
        z.line(0, 777);
        Given.learn(z, 0, 0, 0, 2);
        z.mend(1, 1, 0);
        // 0 and 1 by turns, until both have come thirty times, or 1 but twenty-nine times.
        Given.law(z, "w?60-k*2;1");
        singing("60, and one that sticks would come up", z, 0, 60, 2, 1, 2);
        Given.law(z, "w?60-k*2-a*2;1");
        singing("59 and it sticks", z, 0, 59, 1, 2, 2);
        Given.law(z, "w?62-k*2;1");
        singing("60 and round", z, 0, 60, 2, 1, 2);
    }

    private static void promise10() {
        TuneAndWords x = Given.known(3);
        x.line(0, 0);
        Given.learn(x, 1, 0, 0, 3);
        Given.law(x, "a");
        Check.due("first", 0, x.sung(0, 0, 0));
        Check.due("third", 2, x.sung(0, 2, 0));
        Check.due("one that sticks is none", -2, x.sung(0, 3, 0));
        Check.due("one that sticks is none", -2, x.sung(0, 3, 1));
        Check.due("nobody brought up the first", -2, x.sung(0, 0, 1));
        Check.due("singer 0 brought up the second", 0, x.sung(0, 1, 1));
        Check.due("far", -2, x.sung(0, Integer.MAX_VALUE, 0));
        Check.due("sticks at once", -2, x.sung(3, 0, 0));
        Check.due("bad k", -1, x.sung(0, -1, 0));
        Check.due("bad what", -1, x.sung(0, 0, 2));
        Check.due("bad what", -1, x.sung(0, 0, -1));
        Check.due("bad line", -1, x.sung(4, 0, 0));
        Check.due("bad line", -1, x.sung(-1, 0, 0));
        Check.due("bad what ahead of none", -1, x.sung(0, 59, 2));
    }

    private static void whoBringsItUp() {
        TuneAndWords x = Given.known(4);
        for (int singer = 1; singer < 4; singer++) Given.learn(x, singer, 0, 0, 1, 2);
        Given.law(x, "a*(s+1)");
        Check.holds("the least singer of like ones", Given.broughtUp(x, 0).equals("000"));
        x.mend(2, 3, 6);
        x.mend(3, 3, 6);
        Check.holds("the surest, who has tune or words", Given.broughtUp(x, 0).equals("220"));
        x.mend(3, 3, 7);
        Check.holds("the surest", Given.broughtUp(x, 0).equals("330"));
        x.has(3, 2, 0, 0);
        Check.holds("only what is had", Given.broughtUp(x, 0).equals("320"));
        // A singer who is sure enough brings up another line.
        Given.law(x, "a*5+s-5");
        x.mend(3, 3, 9);
        x.has(3, 3, 0, 1);
        Given.law(x, "a*2+s-5-k*9");
        Check.holds("led astray by the sure one", Given.sung(x, 0).startsWith("abd"));
    }

    private static void promise11() {
        TuneAndWords x = Given.tunes(0, 1, 2, 3, 4, 5, 6);
        Given.law(x, "a");
        Check.due("nobody has anything: least line", 0, x.runUp(0, 0));
        Check.due("none", 0, x.runUp(0, 1));
        Check.due("none right", 0, x.runUp(0, 2));
        Check.due("nobody", 127, x.runUp(0, 3));
        Given.learn(x, 0, 0, 2, 1, 2, 4, 5);
        Given.learn(x, 0, 0, 0, 3);
        Check.due("of like ones the least", 1, x.runUp(0, 0));
        Check.due("two", 2, x.runUp(0, 1));
        Check.due("right", 54, x.runUp(0, 2));
        Check.due("nobody", 73, x.runUp(0, 3));
        Given.learn(x, 3, 0, 2, 6);
        Check.due("longer", 4, x.runUp(0, 0));
        Check.due("three", 3, x.runUp(0, 1));
        Check.due("right", 118, x.runUp(0, 2));
        Check.due("nobody", 9, x.runUp(0, 3));
        for (int what = 0; what < 2; what++) Check.due("no lines", -2, x.runUp(1, what));
        for (int what = 2; what < 4; what++) Check.due("no lines", 0, x.runUp(1, what));
        Check.due("bad song", -1, x.runUp(3, 0));
        Check.due("bad song", -1, x.runUp(-1, 2));
        Check.due("bad what", -1, x.runUp(0, 4));
        Check.due("bad what", -1, x.runUp(0, -1));
        Check.due("bad ahead of not", -1, x.runUp(1, 4));
    }

    private static void bit(String name, TuneAndWords x, int song, int singer, int line, int which, int then) {
        Check.due(name + ": singer", singer, x.oneBit(song, 0));
        Check.due(name + ": line", line, x.oneBit(song, 1));
        Check.due(name + ": which", which, x.oneBit(song, 2));
        Check.due(name + ": then", then, x.oneBit(song, 3));
    }

    private static void promise12() {
        TuneAndWords x = Given.tunes(0, 1, 2);
        Given.law(x, "a");
        bit("nothing helps: the first", x, 0, 0, 0, 0, 0);
        Given.learn(x, 2, 0, 1, 0, 1);
        bit("by singers first", x, 0, 0, 0, 0, 1);
        Given.learn(x, 1, 0, 0, 0);
        bit("a line that two have", x, 0, 0, 1, 0, 2);
        Given.learn(x, 1, 0, 0, 1);
        bit("nothing helps: the first lacked", x, 0, 0, 0, 0, 2);
        Given.learn(x, 1, 0, 0, 2);
        bit("words", x, 0, 0, 2, 1, 3);
        Given.learn(x, 1, 0, 1, 2);
        bit("already whole", x, 0, 0, 0, 0, 3);
        int bits = x.count(1);
        for (int singer = 0; singer < 4; singer++) Given.learn(x, singer, 0, 2, 0, 1, 2);
        Check.due("bits", 24, x.count(1));
        for (int what = 0; what < 4; what++) Check.due("nobody lacks any", -2, x.oneBit(0, what));
        x.has(3, 2, 1, 0);
        bit("one alone", x, 0, 3, 2, 1, 3);
        Check.due("nothing is given", 23, x.count(1));
        Check.holds("bits before", bits == 6);
        for (int what = 0; what < 4; what++) Check.due("no lines", -2, x.oneBit(1, what));
        Check.due("bad song", -1, x.oneBit(3, 0));
        Check.due("bad song", -1, x.oneBit(-1, 0));
        Check.due("bad what", -1, x.oneBit(0, 4));
        Check.due("bad what", -1, x.oneBit(0, -1));
        // More in mind may make it worse: LINE 2 by SINGER 1's words would come up ahead of LINE 1.
        TuneAndWords y = Given.tunes(0, 1, 2);
        Given.learn(y, 0, 0, 2, 0, 1);
        y.mend(1, 3, 9);
        Given.law(y, "s-4");
        bit("the first that does no harm", y, 0, 0, 2, 0, 2);
    }

    private static void promise13() {
        TuneAndWords x = Given.known(3);
        Given.law(x, "a");
        Check.due("whole", 0, x.fewest(0));
        x.has(0, 1, 0, 0);
        Check.due("one", 1, x.fewest(0));
        x.has(0, 2, 1, 0);
        Check.due("two", 2, x.fewest(0));
        x.has(0, 0, 1, 0);
        Check.due("more", -2, x.fewest(0));
        Check.due("no lines", 0, x.fewest(1));
        Check.due("bad song", -1, x.fewest(3));
        Check.due("bad song", -1, x.fewest(-1));
        Given.law(x, "0");
        Check.due("never", -2, x.fewest(0));
        // Only a bit of SINGER 0's brings LINE 1 to mind.
        TuneAndWords only = Given.tunes(0, 1);
        Given.learn(only, 1, 0, 2, 0, 1);
        Given.law(only, "a&s=9");
        only.mend(0, 3, 9);
        Check.due("by one alone", 1, only.fewest(0));
        TuneAndWords y = Given.known(4);
        // LINE 3 comes up behind LINE 1, unless one who is surer has LINE 2 in mind.
        Given.law(y, "s-4-(k>0)*9");
        y.mend(2, 3, 9);
        Given.learn(y, 2, 0, 0, 1);
        y.has(0, 2, 0, 0);
        y.has(0, 2, 1, 0);
        Check.due("two bits of one line", 2, y.fewest(0));
        y.has(0, 2, 0, 1);
        Check.due("one", 1, y.fewest(0));
        y.has(0, 2, 1, 1);
        Check.due("none", 0, y.fewest(0));
        Given.learn(y, 2, 0, 0, 3);
        Check.due("led astray, one bit mends it", 1, y.fewest(0));
        Check.due("nothing is given", 10, y.count(1));
    }

    /** FEWEST as it is told, with all pairs of bits tried by has(), for some laws and states. */
    private static void fewestAgainstAllPairs() {
        String[] laws = {"a*8+t+w*2+r-k*3", "s-3", "a*4+s-k*9", "t*3+s-k*5", "a*2+w*s", "s*(1-k)-a"};
        int z = 17;
        for (int round = 0; round < 60; round++) {
            TuneAndWords x = new TuneAndWords();
            int n = 2 + round % 3;
            for (int i = 0; i < n; i++) {
                z = z * 1103515245 + 12345;
                x.line(0, (z >>> 8) % 8 + 10 * ((z >>> 16) % 3));
            }
            for (int singer = 0; singer < 4; singer++) {
                z = z * 1103515245 + 12345;
                x.mend(singer, 3, (z >>> 8) % 10);
            }
            int known = 0;
            for (int bit = 0; bit < 8 * n; bit++) {
                z = z * 1103515245 + 12345;
                if ((z >>> 8) % 3 == 0) known += x.has(bit % 4, bit / 8, bit / 4 % 2, 1);
            }
            Given.law(x, laws[round % laws.length]);
            Check.due("fewest by all pairs, round " + round, fewestByPairs(x, n), x.fewest(0));
        }
    }

    private static int fewestByPairs(TuneAndWords x, int n) {
        if (x.sing(0, 3) == n) return 0;
        int best = -2;
        for (int b = 0; b < 8 * n; b++) {
            if (x.has(b % 4, b / 8, b / 4 % 2, 1) == 1) continue;
            if (x.sing(0, 3) == n) best = 1;
            for (int c = b + 1; c < 8 * n && best != 1; c++) {
                if (x.has(c % 4, c / 8, c / 4 % 2, 1) == 1) continue;
                if (x.sing(0, 3) == n) best = 2;
                x.has(c % 4, c / 8, c / 4 % 2, 0);
            }
            x.has(b % 4, b / 8, b / 4 % 2, 0);
            if (best == 1) return 1;
        }
        return best;
    }

    private static void promise14() {
        TuneAndWords x = Given.known(12);
        Check.due("has all", 0, x.evenings(0, 0));
        for (int singer = 1; singer < 4; singer++) Check.due("lacks all", 24, x.evenings(0, singer));
        Given.learn(x, 1, 0, 0, 3, 4);
        Check.due("lacks some", 22, x.evenings(0, 1));
        x.has(0, 4, 0, 0);
        Check.due("another one has it", 1, x.evenings(0, 0));
        Check.due("has it alone", 22, x.evenings(0, 1));
        Check.due("some by both", 24, x.evenings(0, 2));
        x.has(1, 4, 0, 0);
        for (int singer = 0; singer < 4; singer++) Check.due("nobody has it", -2, x.evenings(0, singer));
        Check.due("no lines", 0, x.evenings(2, 3));
        Check.due("bad song", -1, x.evenings(3, 0));
        Check.due("bad song", -1, x.evenings(-1, 0));
        Check.due("bad singer", -1, x.evenings(0, 4));
        Check.due("bad singer", -1, x.evenings(0, -1));
    }
}
