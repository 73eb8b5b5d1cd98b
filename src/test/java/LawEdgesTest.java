/** Promise 8 and THE LAW, the sentences that name a boundary. */
final class LawEdgesTest {
    private static final String DIGITS = "0123456789", NAMES = "atwrsk", OPENS = "(!-";
    private static final String COMPARE = "<=>", BIND = "|&+-*/%", PART = "?;";

    public static void main(String[] args) {
        tapeIsEmptyThen();
        lawStaysBehindAFault();
        hundredTwentyBytes();
        linesOneOrMore();
        asManyAsTheTapeHas();
        oneToFourDigits();
        noBlanks();
        sixAreOpenAtOnce();
        everyByteAtFirst();
        everyByteBehindAnOperand();
        everyByteBehindAComparison();
        everyByteInBrackets();
        everyByteWithSixOpen();
        everyByteAtTheEndOfTheTape();
        intsWrap();
        towardZero();
        byZero();
        oneOrZero();
        whatBindsMore();
        whichLineCounts();
        oneOrMoreComesUp();
        farNumbersComeUp();
        nextOne();
        alike();
        howSure();
        howOften();
        eachForItself();
        withoutAText();
        Check.end("LawEdgesTest");
    }

    private static String repeated(String first, String more, int length) {
        StringBuilder all = new StringBuilder(first);
        while (all.length() + more.length() <= length) all.append(more);
        return all.toString();
    }

    private static void fault(String text, int place) {
        Check.due("FAULT of " + text, -100 - place, Given.law(new TuneAndWords(), text));
    }

    private static void isText(String text) {
        Check.due("a TEXT: " + text, 1, Given.law(new TuneAndWords(), text));
    }

    /** Two LINES that SINGER 0 HAS: 1 is the next one of 0, unlike in all; SURE 7. */
    private static TuneAndWords pair() {
        TuneAndWords x = Given.known(2);
        x.mend(0, 3, 7);
        return x;
    }

    /** Whether LINE 1 comes up behind LINE 0. */
    private static void comesUp(String law, boolean due) {
        TuneAndWords x = pair();
        Check.due("a law: " + law, 1, Given.law(x, law));
        Check.due("LINE 1 behind LINE 0 by " + law, due ? 1 : -2, x.sung(0, 1, 0));
    }

    private static void gives(String e, int value) {
        for (int v = value - 1; v <= value + 1; v++) {
            String told = Math.abs(v) < 10000 ? "" + v : v / 9999 + "*9999+" + v % 9999;
            comesUp("(" + e + ")=" + told + "?5;0", v == value);
        }
    }

    /** 8: THE TAPE is empty then, be it a TEXT or not. */
    private static void tapeIsEmptyThen() {
        for (String text : new String[] {"", "1", "0?1;2", "?", "1+", "1)", "(((((((", "a a"}) {
            TuneAndWords x = new TuneAndWords();
            Given.law(x, text);
            Check.due("THE TAPE is empty behind " + text, 0, x.count(2));
            Check.due("nothing is left of " + text, -100, x.law());
            Check.due("nothing is left of " + text, 1, x.feed('1'));
            Check.due("nothing is left of " + text, 1, x.law());
        }
    }

    private static void lawStaysBehindAFault() {
        for (String text : new String[] {"", "a?", "0;", "0)", "0?0?", "((((((("}) {
            TuneAndWords x = Given.known(4);
            String before = Given.sung(x, 2);
            Check.due("a FAULT", -100 - (text.equals("0)") ? 1 : text.equals("0?0?") ? 3 : Math.min(6, text.length())),
                    Given.law(x, text));
            Check.holds("without a text still", Given.sung(x, 2).equals(before));
            Given.law(x, "2-k");
            Check.holds("by the text", Given.sung(x, 2).equals("cabdabcd"));
            Given.law(x, text);
            Check.holds("by the text still", Given.sung(x, 2).equals("cabdabcd"));
            Given.law(x, text);
            Check.holds("by the text still", Given.sung(x, 2).equals("cabdabcd"));
        }
    }

    /** A TEXT of 120 bytes is one. */
    private static void hundredTwentyBytes() {
        String longest = repeated("-1", "+1", 120);
        Check.due("its length", 120, longest.length());
        comesUp(longest, true);
        comesUp(repeated("-", "-1", 119) + "1", false);
        fault(repeated("1", "+1", 119) + "+", 120);
        fault(repeated("a", "&a", 119) + "a", 119);
        TuneAndWords x = pair();
        for (int i = 0; i < 120; i++) x.feed(longest.charAt(i));
        Check.due("the 121st byte", -3, x.feed(')'));
        Check.due("it is no part of it", 1, x.law());
        // -1 and 59 times 1 are 58: not 0, not 59.
        comesUp(longest.substring(0, 118) + "=0", false);
        comesUp(repeated("-1", "+1", 114) + "<56", true);
        comesUp(repeated("-1", "+1", 114) + "<55", false);
    }

    private static void linesOneOrMore() {
        isText("1");
        isText("1;1");
        isText(repeated("1", ";1", 119));
        isText(repeated("0?1", ";0?1", 119));
        fault("", 0);
        fault(";", 0);
        fault(";1", 0);
        fault("1;", 2);
        fault("1;;1", 2);
        fault("1?", 2);
        fault("1?;", 2);
        fault("?1", 0);
        fault(repeated("1", ";1", 119) + ";", 120);
        fault(repeated("0?1", ";0?1", 119) + "?", 119);
        // Sixty LINES: the first of them counts; of thirty with a first E the last one.
        comesUp(repeated("0", ";1", 119), false);
        comesUp(repeated("0?9", ";0?9", 115) + ";1", true);
        comesUp(repeated("0?9", ";0?9", 115) + ";0", false);
        comesUp(repeated("0?9", ";0?9", 115) + ";1?5", true);
        comesUp(repeated("0?9", ";0?9", 119), false);
    }

    /** E = A { | A } and so on: none, one, as many as there is room for. */
    private static void asManyAsTheTapeHas() {
        for (char operator : BIND.toCharArray()) {
            for (int n = 0; n < 60; n++) isText(repeated("1", operator + "1", 2 * n + 1));
        }
        for (char operator : COMPARE.toCharArray()) {
            isText("1" + operator + "1");
            fault("1" + operator + "1" + operator + "1", 3);
        }
        comesUp(repeated("0", "|0", 115) + "|1", true);
        comesUp(repeated("1", "&1", 115) + "&0", false);
        comesUp(repeated("2", "*1", 115) + "=2", true);
        comesUp(repeated("9999", "/1", 110) + "=9999", true);
        comesUp(repeated("59", "-1", 118), true);
        comesUp(repeated("58", "-1", 118), false);
        comesUp(repeated("7", "%8", 115) + "=7", true);
    }

    private static void oneToFourDigits() {
        for (String number : new String[] {"0", "9", "00", "99", "000", "999", "0000", "9999", "0001", "1000"}) {
            isText(number);
            gives(number, Integer.parseInt(number));
        }
        for (String number : new String[] {"00000", "99999", "12345", "00001", "123456"}) {
            fault(number, 4);
            fault("(" + number + ")", 5);
            fault("1+" + number, 6);
        }
        isText("9999+9999;9999?9999");
        gives("9999+9999", 19998);
        fault("a1", 1);
        fault("1a", 1);
        fault("9999a", 4);
    }

    private static void noBlanks() {
        fault(" ", 0);
        fault(" 1", 0);
        fault("1 ", 1);
        fault("1 +1", 1);
        fault("1+ 1", 2);
        fault("( 1)", 1);
        fault("(1 )", 2);
        fault("! 1", 1);
        fault("1; 1", 2);
        fault("1 ?1", 1);
        fault("1\n", 1);
        fault("1\t+1", 1);
    }

    private static void sixAreOpenAtOnce() {
        String[] six = {"((((((", "!!!!!!", "------", "(!-(!-", "-----(", "(((((!", "!(((((", "-(!-(!"};
        for (String open : six) {
            String close = open.replace("!", "").replace("-", "").replace('(', ')');
            isText(open + "1" + close);
            isText("1+" + open + "a" + close + "*" + open + "1" + close);
            for (char c : OPENS.toCharArray()) {
                fault(open + c, 6);
                fault(open + c + "1" + close, 6);
                fault("1+" + open + c + "1", 8);
                isText(open.substring(1) + c + "1" + (open.charAt(0) == '(' ? close.substring(1) : close) + (c == '(' ? ")" : ""));
            }
        }
        // What is closed is open no more.
        isText("((((((1))))))+((((((1))))))");
        isText("!!!!!!1+!!!!!!1");
        isText("(!!!!!1+!!!!!1)");
        isText("((1)+(1)+(((((1)))))+(1))");
        fault("((1)+(1)+((((((1))))))+(1))", 14);
        fault("(!!!!!1+!!!!!!1)", 13);
        isText("1-------1");
        fault("1--------1", 8);
        fault("!------1", 6);
        comesUp("((((((3))))))", true);
        comesUp("!!!!!!3", true);
        comesUp("!!!!!3", false);
        comesUp("------3", true);
        comesUp("-----3", false);
        comesUp("-(-(-3))", false);
        comesUp("-(-(--3))", true);
    }

    /** Behind a beginning all bytes but some are a FAULT there; of those some end a TEXT. */
    private static void bytesBehind(String beginning, String ends, String goesOn) {
        TuneAndWords x = new TuneAndWords();
        int n = beginning.length();
        for (int c = 0; c < 256; c++) {
            if (c % 64 == 0) x = new TuneAndWords();
            int due = ends.indexOf((char) c) >= 0 ? 1 : goesOn.indexOf((char) c) >= 0 ? -101 - n : -100 - n;
            for (int i = 0; i < n; i++) x.feed(beginning.charAt(i));
            Check.due("byte " + c + " is fed", n + 1, x.feed(c));
            Check.due("behind " + beginning + " the byte " + c, due, x.law());
        }
    }

    private static void everyByteAtFirst() {
        for (String beginning : new String[] {"", "a;", "a?", "1?1;", "0?1;0?"}) bytesBehind(beginning, DIGITS + NAMES, OPENS);
        for (char c : (BIND + COMPARE).toCharArray()) bytesBehind("a" + c, DIGITS + NAMES, OPENS);
        bytesBehind("!", DIGITS + NAMES, OPENS);
        bytesBehind("-", DIGITS + NAMES, OPENS);
        bytesBehind("(", "", DIGITS + NAMES + OPENS);
        bytesBehind("!!!!!!a+", DIGITS + NAMES, OPENS);
    }

    private static void everyByteBehindAnOperand() {
        for (String number : new String[] {"1", "12", "123", "0"}) bytesBehind(number, DIGITS, BIND + COMPARE + PART);
        bytesBehind("1234", "", BIND + COMPARE + PART);
        bytesBehind("0000", "", BIND + COMPARE + PART);
        for (char name : NAMES.toCharArray()) bytesBehind("" + name, "", BIND + COMPARE + PART);
        bytesBehind("!a", "", BIND + COMPARE + PART);
        bytesBehind("-a", "", BIND + COMPARE + PART);
        bytesBehind("(a)", "", BIND + COMPARE + PART);
        bytesBehind("a?a", "", BIND + COMPARE + ";");
        bytesBehind("a?a;a", "", BIND + COMPARE + PART);
        bytesBehind("a;a?12", DIGITS, BIND + COMPARE + ";");
    }

    /** B = S, or S < S, S = S, S > S: one in each B. */
    private static void everyByteBehindAComparison() {
        for (char c : COMPARE.toCharArray()) {
            bytesBehind("a" + c + "a", "", BIND + PART);
            bytesBehind("a" + c + "1", DIGITS, BIND + PART);
            bytesBehind("a" + c + "a+a", "", BIND + PART);
            bytesBehind("a" + c + "a*a", "", BIND + PART);
            bytesBehind("a" + c + "(a)", "", BIND + PART);
            bytesBehind("a" + c + "a&a", "", BIND + COMPARE + PART);
            bytesBehind("a" + c + "a|a", "", BIND + COMPARE + PART);
            bytesBehind("a" + c + "a;a", "", BIND + COMPARE + PART);
            bytesBehind("a" + c + "a?a", "", BIND + COMPARE + ";");
            bytesBehind("(a" + c + "a", ")", BIND);
            bytesBehind("(a" + c + "a)", "", BIND + COMPARE + PART);
            bytesBehind("a" + c + "(a" + c + "a)", "", BIND + PART);
        }
    }

    private static void everyByteInBrackets() {
        bytesBehind("(a", ")", BIND + COMPARE);
        bytesBehind("(1", ")", DIGITS + BIND + COMPARE);
        bytesBehind("((a", "", BIND + COMPARE + ")");
        bytesBehind("((a)", ")", BIND + COMPARE);
        bytesBehind("(a<a", ")", BIND);
        bytesBehind("a<(a", ")", BIND + COMPARE);
        bytesBehind("(!a", ")", BIND + COMPARE);
        bytesBehind("(a+", "", DIGITS + NAMES + OPENS);
    }

    private static void everyByteWithSixOpen() {
        bytesBehind("((((((", "", DIGITS + NAMES);
        bytesBehind("!!!!!!", DIGITS + NAMES, "");
        bytesBehind("------", DIGITS + NAMES, "");
        bytesBehind("(!-(!-", "", DIGITS + NAMES);
        bytesBehind("!!!!!", DIGITS + NAMES, OPENS);
        bytesBehind("(((((", "", DIGITS + NAMES + OPENS);
        bytesBehind("((((((a", "", BIND + COMPARE + ")");
        bytesBehind("((((((a-", "", DIGITS + NAMES);
        bytesBehind("((((((a)+", "", DIGITS + NAMES + OPENS);
        bytesBehind("((((((a)+(", "", DIGITS + NAMES);
        bytesBehind("!!!!!(a)+", DIGITS + NAMES, OPENS);
        bytesBehind("(!!!!!a+", "", DIGITS + NAMES + OPENS);
    }

    private static void everyByteAtTheEndOfTheTape() {
        bytesBehind(repeated("1", "+1", 119), DIGITS, BIND + COMPARE + PART);
        bytesBehind(repeated("--1", "+1", 119) , DIGITS, BIND + COMPARE + PART);
        bytesBehind(repeated("12", "+1", 118) + "+", DIGITS + NAMES, OPENS);
        bytesBehind(repeated("(12", "+1", 119), ")", DIGITS + BIND + COMPARE);
    }

    /** 8192 * 8192 * 32 is the least int. */
    private static void intsWrap() {
        comesUp("8192*8192*32<0", true);
        comesUp("8192*8192*32-1>0", true);
        comesUp("8192*8192*32-1+1<0", true);
        comesUp("8192*8192*32-1=8192*8192*31+8192*8191+8191", true);
        gives("8192*8192*64", 0);
        comesUp("-(8192*8192*32)<0", true);
        comesUp("-(8192*8192*32)=8192*8192*32", true);
        comesUp("0-8192*8192*32<0", true);
        comesUp("8192*8192*32*-1<0", true);
        comesUp("8192*8192*32/-1<0", true);
        gives("8192*8192*32%-1", 0);
        gives("9999*9999*9999%9998", 9999 * 9999 * 9999 % 9998);
        gives("9999*9999*9999*9999/9999", 9999 * 9999 * 9999 * 9999 / 9999);
    }

    private static void towardZero() {
        gives("7/2", 3);
        gives("-7/2", -3);
        gives("7/-2", -3);
        gives("-7/-2", 3);
        gives("-1/2", 0);
        gives("7%2", 1);
        gives("-7%2", -1);
        gives("7%-2", 1);
        gives("-7%-2", -1);
        gives("0/5", 0);
        gives("0%5", 0);
        gives("5/5", 1);
        gives("5%5", 0);
    }

    private static void byZero() {
        gives("7/0", 0);
        gives("7%0", 0);
        gives("0/0", 0);
        gives("0%0", 0);
        gives("-7/0", 0);
        gives("-7%0", 0);
        gives("8192*8192*32/0", 0);
        gives("8192*8192*32%0", 0);
        gives("7/(a-1)+5", 5);
        gives("7%t+5", 5);
        gives("5-7/0*3", 5);
        comesUp("9/0", false);
        comesUp("9/0?5;1", true);
    }

    /** | & < = > ! give 1, 0. */
    private static void oneOrZero() {
        int[] some = {-2, -1, 0, 1, 2, 9};
        for (int p : some) {
            gives("!" + p, p == 0 ? 1 : 0);
            for (int q : some) {
                gives(p + "|" + q, p != 0 || q != 0 ? 1 : 0);
                gives(p + "&" + q, p != 0 && q != 0 ? 1 : 0);
                gives(p + "<" + q, p < q ? 1 : 0);
                gives(p + "=" + q, p == q ? 1 : 0);
                gives(p + ">" + q, p > q ? 1 : 0);
            }
        }
        gives("8192*8192*32<8192*8192*32-1", 1);
        gives("8192*8192*32-1>8192*8192*32", 1);
        gives("!(8192*8192*32)", 0);
    }

    private static int applied(char operator, int p, int q) {
        switch (operator) {
            case '|': return p != 0 || q != 0 ? 1 : 0;
            case '&': return p != 0 && q != 0 ? 1 : 0;
            case '<': return p < q ? 1 : 0;
            case '=': return p == q ? 1 : 0;
            case '>': return p > q ? 1 : 0;
            case '+': return p + q;
            case '-': return p - q;
            case '*': return p * q;
            case '/': return q == 0 ? 0 : p / q;
            default: return q == 0 ? 0 : p % q;
        }
    }

    private static int level(char operator) {
        return operator == '|' ? 0 : operator == '&' ? 1 : COMPARE.indexOf(operator) >= 0 ? 2 : "+-".indexOf(operator) >= 0 ? 3 : 4;
    }

    /** * / % ahead of + -, these ahead of < = >, of &, of |; like ones from the left. */
    private static void whatBindsMore() {
        int[][] some = {{1, 0, 0}, {0, 0, 1}, {1, 1, 0}, {7, 2, 3}, {2, 5, 0}, {0, 3, 1}, {1, 5, 3}, {9, 4, 4}};
        for (char first : (BIND + COMPARE).toCharArray()) {
            for (char second : (BIND + COMPARE).toCharArray()) {
                if (level(first) == 2 && level(second) == 2) continue;
                for (int[] v : some) {
                    int value = level(first) >= level(second) ? applied(second, applied(first, v[0], v[1]), v[2])
                            : applied(first, v[0], applied(second, v[1], v[2]));
                    gives("" + v[0] + first + v[1] + second + v[2], value);
                }
            }
        }
        gives("-2*3", -6);
        gives("!2+3", 3);
        gives("!0*5", 5);
        gives("-!0+1", 0);
        gives("!-3=0", 1);
    }

    /** The first LINE without a first E, or whose first E is not 0, counts; none: 0. */
    private static void whichLineCounts() {
        comesUp("0?1", false);
        comesUp("1?1", true);
        comesUp("-1?1", true);
        comesUp("8192*8192*32?1", true);
        comesUp("8192*8192*64?1", false);
        comesUp("1?0;1", false);
        comesUp("0?0;1", true);
        comesUp("0;1", false);
        comesUp("1;0", true);
        comesUp("0?1;0", false);
        comesUp("0?1;0?1;1?1", true);
        comesUp("0?1;1?0;1?1", false);
        comesUp("0?1;0?1;0?1", false);
        comesUp("0?1;0?1;0", false);
        comesUp("0?1;0?1;1", true);
        comesUp("0?0;0?0;1;0", true);
    }

    /** 1 or more comes up; 0 and below do not. */
    private static void oneOrMoreComesUp() {
        comesUp("1", true);
        comesUp("2", true);
        comesUp("0", false);
        comesUp("-1", false);
        comesUp("8192*8192*32", false);
        comesUp("8192*8192*32-1", true);
        comesUp("8192*8192*32+1", false);
        TuneAndWords x = Given.known(4);
        Given.law(x, "a*-5+!a-k");
        Check.due("behind 0 the first with 1", 2, x.sung(0, 1, 0));
        Check.due("behind 3 the first with 1", 0, x.sung(3, 1, 0));
        Given.law(x, "a*-5-k");
        Check.due("0 and below: it ENDS", 0, x.sing(0, 1));
        Check.due("0 and below: it ENDS at once", 1, x.sing(0, 0));
    }

    private static void farNumbersComeUp() {
        TuneAndWords x = Given.known(4);
        Given.law(x, "a?8192*8192*32-1;8192*8192*32-2");
        Check.due("the greatest int", 3, x.sung(2, 1, 0));
        Given.law(x, "a?8192*8192*32;1");
        Check.due("not the least int", 0, x.sung(2, 1, 0));
        Given.law(x, "a?8192*8192*32-2;8192*8192*32-1");
        Check.due("the greatest int", 0, x.sung(2, 1, 0));
    }

    /** a: the next one of the one sung, not the one ahead, not the first one behind the last. */
    private static void nextOne() {
        TuneAndWords x = Given.known(12);
        Given.law(x, "a");
        for (int line = 0; line < 12; line++) {
            Check.due("a: how many from " + line + " on", 12 - line, x.sing(line, 0));
            Check.due("a: the last one ENDS it", 11, x.sing(line, 2));
        }
        Given.law(x, "!a");
        Check.due("!a: behind 0", 2, x.sung(0, 1, 0));
        Check.due("!a: behind 1", 0, x.sung(1, 1, 0));
        Check.due("!a: behind 11", 0, x.sung(11, 1, 0));
    }

    /** t, w, r: 0 .. 7 are each alike with itself alone; they are compared with the one just sung. */
    private static void alike() {
        String[] laws = {"t", "w", "r"};
        int[] places = {100, 10, 1};
        for (int what = 0; what < 3; what++) {
            TuneAndWords x = new TuneAndWords();
            x.line(0, 0);
            x.line(0, 0);
            Given.learn(x, 0, 0, 2, 0, 1);
            Given.law(x, laws[what]);
            for (int p = 0; p < 8; p++) {
                x.mend(0, what, p);
                for (int q = 0; q < 8; q++) {
                    x.mend(1, what, q);
                    Check.due(laws[what] + ": " + p + " and " + q, p == q ? 60 : 1, x.sing(0, 0));
                }
            }
            TuneAndWords y = new TuneAndWords();
            for (int v : new int[] {1, 2, 1, 2}) y.line(0, v * places[what]);
            Given.learn(y, 0, 0, 2, 0, 1, 2, 3);
            Given.law(y, laws[what] + "&!k");
            Check.holds(laws[what] + ": of the one just sung", Given.sung(y, 1).equals("bd"));
        }
    }

    /** s: 0 .. 9, the SINGER's own who has the LINE in mind. */
    private static void howSure() {
        TuneAndWords x = pair();
        for (int s = 0; s < 10; s++) {
            x.mend(0, 3, s);
            for (int v = Math.max(0, s - 1); v <= s + 1; v++) {
                Given.law(x, "s=" + v);
                Check.due("s: " + s + " is " + v, v == s ? 1 : -2, x.sung(0, 1, 0));
            }
        }
        TuneAndWords y = new TuneAndWords();
        for (int line = 0; line < 5; line++) y.line(0, 0);
        Given.learn(y, 0, 0, 2, 0);
        for (int singer = 0; singer < 4; singer++) {
            Given.learn(y, singer, 0, 2, singer + 1);
            y.mend(singer, 3, 2 * singer);
        }
        for (int singer = 0; singer < 4; singer++) {
            Given.law(y, "s=" + 2 * singer);
            Check.due("s: of SINGER " + singer, singer + 1, y.sung(0, 1, 0));
            Check.due("s: by SINGER " + singer, singer, y.sung(0, 1, 1));
        }
        Given.law(y, "s=5");
        Check.due("s: nobody's", -2, y.sung(0, 1, 0));
    }

    /** k: how often the LINE was sung in this singing: 0 at first, the first LINE counts, another singing does not. */
    private static void howOften() {
        for (int most = 1; most <= 30; most++) {
            TuneAndWords x = Given.known(2);
            Given.law(x, "k<" + most);
            Check.due("k: each up to " + most, 2 * most, x.sing(0, 0));
            Check.due("k: each up to " + most, most == 30 ? 2 : 0, x.sing(0, 1));
            Check.due("k: another singing begins with 0", 2 * most, x.sing(1, 0));
        }
        TuneAndWords x = Given.known(3);
        Given.law(x, "!k");
        Check.holds("k: the first LINE was sung", Given.sung(x, 1).equals("bac"));
        x.begin(0);
        x.on();
        x.on();
        Check.due("k: all were sung", -2, x.on());
        x.begin(2);
        Check.due("k: in deed too another singing begins with 0", 0, x.on());
        Check.holds("k: in thought too", Given.sung(x, 0).equals("abc"));
        Check.due("k: goes on in deed", 1, x.on());
    }

    /** How SURE, how alike and how often, each with each, by one law on one object. */
    private static void eachForItself() {
        int z = 1;
        for (int round = 0; round < 40; round++) {
            int[][] parts = new int[12][3];
            int[] sure = new int[4];
            TuneAndWords x = new TuneAndWords();
            for (int line = 0; line < 12; line++) {
                for (int what = 0; what < 3; what++) parts[line][what] = (z = z * 1103515245 + 12345) >>> 12 & 1;
                x.line(0, 100 * parts[line][0] + 10 * parts[line][1] + parts[line][2]);
                Given.learn(x, line % 4, 0, 2, line);
            }
            for (int singer = 0; singer < 4; singer++) {
                sure[singer] = ((z = z * 1103515245 + 12345) >>> 12) % 10;
                x.mend(singer, 3, sure[singer]);
            }
            Given.law(x, "s*7+a*29+t*5-w*9+r*3-k*11+20");
            for (int from = 0; from < 12; from++) comparedWithJava(x, parts, sure, from);
        }
    }

    private static void comparedWithJava(TuneAndWords x, int[][] parts, int[] sure, int from) {
        int[] k = new int[12];
        int last = from;
        k[last]++;
        for (int i = 1; i < 30; i++) {
            int most = 0, found = -2;
            for (int line = 0; line < 12; line++) {
                if (line == last) continue;
                int v = sure[line % 4] * 7 + 20 - k[line] * 11 + (line == last + 1 ? 29 : 0);
                v += (parts[line][0] == parts[last][0] ? 5 : 0) - (parts[line][1] == parts[last][1] ? 9 : 0);
                v += parts[line][2] == parts[last][2] ? 3 : 0;
                if (v > most) {
                    most = v;
                    found = line;
                }
            }
            Check.due("each for itself: " + i + " from " + from, found, x.sung(from, i, 0));
            if (found < 0) return;
            last = found;
            k[last]++;
        }
    }

    private static TuneAndWords lines(int... twrs) {
        TuneAndWords x = new TuneAndWords();
        for (int i = 0; i < twrs.length; i++) {
            x.line(0, twrs[i]);
            Given.learn(x, 0, 0, 2, i);
        }
        return x;
    }

    /** Which LINE comes up behind the last one of three, where none is the next one. */
    private static void behindTheLast(int due, int... twrs) {
        TuneAndWords x = lines(twrs);
        Check.due("without a text behind " + twrs[2], due, x.sung(2, 1, 0));
        Given.law(x, "a*8+t+w*2+r-k*3");
        Check.due("by the same as a text behind " + twrs[2], due, x.sung(2, 1, 0));
    }

    /** Without a text: a times 8, and t, and w times 2, and r, less k times 3. */
    private static void withoutAText() {
        behindTheLast(-2, 111, 111, 0);
        behindTheLast(0, 11, 111, 0);
        behindTheLast(0, 110, 111, 0);
        behindTheLast(1, 11, 101, 0);
        behindTheLast(1, 110, 101, 0);
        behindTheLast(0, 11, 110, 0);
        behindTheLast(0, 110, 11, 0);
        behindTheLast(0, 101, 10, 0);
        behindTheLast(0, 10, 101, 0);
        behindTheLast(0, 1, 100, 0);
        behindTheLast(0, 100, 1, 0);
        behindTheLast(1, 10, 100, 0);
        behindTheLast(1, 10, 1, 0);
        behindTheLast(1, 1, 0, 0);
        // 3 for tune and words is gone once it was sung; of 4 for all 1 is left, once.
        Check.holds("3 less 3", Given.sung(lines(10, 11), 1).equals("bab"));
        Check.holds("4 less 3, 4 less 6", Given.sung(lines(111, 111), 1).equals("babab"));
        Check.holds("8 ahead of 4", Given.sung(lines(0, 111, 0), 0).equals("abcabc"));
        for (int other = 0; other < 2; other++) {
            TuneAndWords x = lines(0, 111, 0, 777, 777);
            for (int bit = 0; bit < 2; bit++) x.has(0, 3, bit, 0);
            x.begin(1);
            for (int line : new int[] {2, 0, 1, 2, 0}) Check.due("without a text, in deed", line, x.on());
            // 8 less 6 for the next one: as much as w, less than w and r.
            x.mend(4, 1, 0);
            if (other == 1) x.mend(4, 2, 0);
            Check.due("8 less 6 against " + (2 + other), other == 0 ? 1 : 4, x.on());
        }
        TuneAndWords x = lines(0, 0, 0, 0);
        x.mend(0, 3, 9);
        String sure = Given.sung(x, 0);
        x.mend(0, 3, 0);
        Check.holds("without a text: how SURE is nothing to it", Given.sung(x, 0).equals(sure));
    }
}
