import java.util.LinkedHashMap;
import java.util.Map;
import java.util.Set;
import java.util.TreeSet;

/**
 * A call that is taken changes what its promise names and nothing else: each part of what an object
 * holds is looked at by itself, on an object made anew, with and without the call ahead.
 */
final class OnlyThatTest {
    private interface Look {
        void at(TuneAndWords x, StringBuilder seen);
    }

    private static final Map<String, Look> LOOKS = new LinkedHashMap<>();
    private static final Map<House.Made, Map<String, String>> SEEN = new LinkedHashMap<>();
    private static final House.Made ON = OnlyThatTest::singing;
    private static final House.Made OVER = () -> singingOver(singing());
    private static final House.Made BARE = OnlyThatTest::bare;

    public static void main(String[] args) {
        LOOKS.put("LINES", OnlyThatTest::lines);
        LOOKS.put("bits", OnlyThatTest::bits);
        LOOKS.put("SURE", OnlyThatTest::sure);
        LOOKS.put("FORGETS", (x, seen) -> add(seen, x.of(0, 4)));
        LOOKS.put("THE LAW", OnlyThatTest::law);
        LOOKS.put("THE TAPE", OnlyThatTest::tape);
        LOOKS.put("singing", OnlyThatTest::goesOn);
        LOOKS.put("LED", OnlyThatTest::led);
        LOOKS.put("IMAGE", OnlyThatTest::image);
        LOOKS.put("UNDO", OnlyThatTest::undo);
        LOOKS.put("REDO", OnlyThatTest::redo);
        LOOKS.put("BODIES", OnlyThatTest::bodies);
        LOOKS.put("TRACE", OnlyThatTest::trace);
        for (int shelf = 0; shelf < 6; shelf++) {
            int it = shelf;
            LOOKS.put("SHELF " + it, (x, seen) -> shelf(x, it, seen));
        }
        looksSeeSomething();
        songsAndSingers();
        inThought();
        heardAndTold();
        inDeed();
        imageAndChanges();
        actsAndShelves();
        refused();
        Check.end("OnlyThatTest");
    }

    /**
     * SONG 0 is there to be changed; in SONG 1 a singing is on; SONG 2 shows THE LAW. SINGER 2 HAS
     * nothing of SONGS 1 and 2, so that what becomes of it does not show there.
     */
    private static TuneAndWords singing() {
        TuneAndWords x = new TuneAndWords();
        Given.addTunes(x, 0, 1, 2, 3, 4, 1);
        Given.addTunes(x, 1, 3, 4, 1, 2, 5, 6);
        Given.addTunes(x, 2, 5, 5, 7, 2, 5);
        Given.learn(x, 0, 0, 0, 0, 1, 3);
        Given.learn(x, 2, 0, 1, 0, 1, 2);
        Given.learn(x, 1, 1, 2, 0, 1, 2, 3, 4, 5);
        Given.learn(x, 3, 2, 0, 0, 1, 2, 3, 4);
        Given.learn(x, 0, 2, 1, 0, 1, 2, 4);
        Given.law(x, "a*5+t*2+s-k*3");
        for (char c : "9*t+1;k".toCharArray()) x.feed(c);
        x.begin(204);
        singingOver(x);
        x.begin(100);
        x.on();
        x.image();
        x.on();
        x.has(1, 3, 0, 1);
        x.mend(3, 3, 6);
        x.mend(2, 3, 7);
        x.mend(1, 1, 6);
        x.mend(0, 4, 3);
        x.mend(2, 2, 5);
        x.mend(2, 3, 2);
        x.undo();
        x.undo();
        for (int kind = 7; kind >= 0; kind--) x.body(kind);
        Given.row(x, 0, 3, 4, 1);
        Given.row(x, 1, 0, 1, 1);
        x.row(2, 2, 4);
        x.put(2, 3, -70000);
        x.keep(3, 4);
        x.row(5, 2, 3);
        x.act(2, 3, 9);
        return x;
    }

    /** LINES, of which some is had; no singing, no CHANGES, no IMAGE. */
    private static TuneAndWords bare() {
        TuneAndWords x = new TuneAndWords();
        for (int song = 0; song < 3; song++) {
            Given.addTunes(x, song, 1, 2, 3);
            Given.learn(x, song, song, 2, 0, 1);
        }
        return x;
    }

    private static TuneAndWords singingOver(TuneAndWords x) {
        for (int i = 0; i < 61 && x.on() >= 0; i++) Check.holds("a singing goes on", x.led(4) > 0);
        return x;
    }

    private static void songsAndSingers() {
        for (House.Made state : new House.Made[] {ON, OVER}) {
            only("line", state, x -> x.line(0, 777), "LINES");
            only("lines", state, x -> x.lines(0, 1, 0, 1), "LINES");
            only("has", state, x -> x.has(2, 4, 0, 1), "bits");
            only("has not", state, x -> x.has(0, 0, 0, 0), "bits");
            only("has, as it was", state, x -> x.has(0, 0, 0, 1));
            for (int what = 0; what < 3; what++) {
                int it = what;
                only("mend " + it, state, x -> x.mend(4, it, 7), "LINES", "UNDO", "REDO");
            }
            only("mend SURE", state, x -> x.mend(2, 3, 9), "SURE", "UNDO", "REDO");
            only("mend FORGETS", state, x -> x.mend(0, 4, 12), "FORGETS", "UNDO", "REDO");
            only("mend, the same number", state, x -> x.mend(0, 4, 3));
            for (int what = 0; what < 8; what++) {
                int it = what;
                only("of " + it, state, x -> x.of(0, it));
            }
            only("feed", state, x -> x.feed('a'), "THE TAPE");
        }
        // The singing that AN IMAGE keeps goes on by the law that is there when it is laid back.
        only("law", OVER, x -> x.law(), "THE LAW", "THE TAPE", "IMAGE");
        only("law", ON, x -> x.law(), "THE LAW", "THE TAPE", "singing", "IMAGE");
        only("law, a FAULT", ON, x -> x.feed('!') + x.law(), "THE TAPE");
    }

    private static void inThought() {
        for (int song = 0; song < 3; song++) {
            int it = song;
            for (int what = 0; what < 4; what++) {
                int of = what;
                only("sing", ON, x -> x.sing(100 * it, of));
                only("runUp", ON, x -> x.runUp(it, of));
                only("oneBit", ON, x -> x.oneBit(it, of));
            }
            only("sung", ON, x -> x.sung(100 * it, 1, 0) + x.sung(100 * it, 1, 1));
            only("fewest", ON, x -> x.fewest(it));
            for (int singer = 0; singer < 4; singer++) {
                int who = singer;
                only("evenings", ON, x -> x.evenings(it, who));
            }
        }
    }

    private static void heardAndTold() {
        for (int shelf = 0; shelf < 6; shelf++) {
            int it = shelf;
            only("which", ON, x -> x.which(it));
            for (int song = 0; song < 3; song++) {
                int of = song;
                only("from", ON, x -> x.from(it, of));
                only("judge", ON, x -> x.judge(it, of));
                only("lacked", ON, x -> x.lacked(it, of));
            }
        }
        for (int ab : new int[] {1, 2, 10, 12, 20, 21}) {
            for (int what = 0; what < 3; what++) {
                int it = what;
                only("two", ON, x -> x.two(ab, it));
            }
            only("mixed", ON, x -> x.mixed(ab / 10 * 100, ab % 10));
            only("drawn", ON, x -> x.drawn(ab / 10, 7, 20, 0));
            only("drawn", ON, x -> x.drawn(ab / 10, -7, 3, 1));
        }
    }

    private static void inDeed() {
        only("begin", OVER, x -> x.begin(1), "singing", "LED");
        only("begin, it STICKS", OVER, x -> x.begin(4), "LED");
        only("on", ON, x -> x.on(), "singing", "LED");
        only("on, to its end", ON, x -> singingOver(x).led(0), "singing", "LED");
        for (int what = 0; what < 5; what++) {
            int it = what;
            only("led", ON, x -> x.led(it));
        }
    }

    private static void imageAndChanges() {
        only("image", ON, x -> x.image(), "IMAGE");
        only("image", OVER, x -> x.image(), "IMAGE");
        only("back", ON, x -> x.back(), "bits", "singing", "LED");
        only("back", OVER, x -> x.back(), "bits", "singing", "LED");
        only("undo FORGETS", ON, x -> x.undo(), "FORGETS", "UNDO", "REDO");
        only("undo FORGETS, a WORD", ON, x -> x.undo() + x.undo(), "FORGETS", "LINES", "UNDO", "REDO");
        only("redo a RHYME", ON, x -> x.redo(), "LINES", "UNDO", "REDO");
        only("redo a RHYME, SURE", ON, x -> x.redo() + x.redo(), "LINES", "SURE", "UNDO", "REDO");
        only("undo, redo", ON, x -> x.undo() + x.redo());
        only("redo, undo", ON, x -> x.redo() + x.undo());
    }

    private static void actsAndShelves() {
        only("body", ON, x -> x.body(5), "BODIES");
        for (int act = 0; act < 4; act++) {
            int it = act;
            only("act", ON, x -> x.act(7, it, 9), "TRACE");
        }
        only("act, the same", ON, x -> x.act(2, 3, -1));
        only("act of nobody", ON, x -> x.act(8, 0, 9), "TRACE");
        for (int i = 0; i < 24; i++) {
            int it = i;
            only("trace", ON, x -> x.trace(it));
        }
        for (int shelf = 0; shelf < 6; shelf++) {
            int it = shelf;
            String name = "SHELF " + shelf;
            if (it != 4) only("keep nothing", ON, x -> x.keep(it, -1), name);
            only("keep a BODY", ON, x -> x.keep(it, 7), name);
            only("row", ON, x -> x.row(it, 3, 5), name);
            for (int k = 0; k < 8; k++) {
                int kind = k;
                only("taken", ON, x -> x.taken(it, kind));
            }
            only("element", ON, x -> x.element(it, 0));
        }
        for (int shelf : new int[] {0, 1, 2, 5}) only("put", ON, x -> x.put(shelf, 1, 6), "SHELF " + shelf);
        only("shift", ON, x -> x.shift(0, 0, 1, 0, 2), "SHELF 1");
        only("shift, back", ON, x -> x.shift(1, 0, 0, 1, 2), "SHELF 0");
        only("shift, ints", ON, x -> x.shift(2, 1, 5, 0, 3), "SHELF 5");
        only("shift, the same ROW", ON, x -> x.shift(2, 3, 2, 0, 1), "SHELF 2");
        only("shift, none", ON, x -> x.shift(0, 0, 1, 0, 0));
        // What is on a SHELF behind a shift is its own.
        only("put behind a shift", ON, x -> x.shift(0, 0, 1, 0, 3) + x.put(1, 0, 9), "SHELF 1");
        for (int what = 0; what < 6; what++) {
            int it = what;
            only("count", ON, x -> x.count(it));
        }
    }

    private static void refused() {
        only("line, BAD", ON, x -> x.line(0, 800));
        only("has, BAD", ON, x -> x.has(0, 5, 0, 1));
        only("mend, BAD", ON, x -> x.mend(2, 3, 10));
        only("feed, BAD", ON, x -> x.feed(256));
        only("lines, -12", ON, x -> x.lines(0, 2, 0, 1));
        only("begin, STATE", ON, x -> x.begin(0));
        only("on, STATE", OVER, x -> x.on());
        only("on, STATE", BARE, x -> x.on());
        only("back, STATE", BARE, x -> x.back());
        only("undo, STATE", BARE, x -> x.undo());
        only("redo, STATE", BARE, x -> x.redo());
        only("body, BAD", ON, x -> x.body(8));
        only("keep, BAD", ON, x -> x.keep(0, 8));
        only("row, BAD", ON, x -> x.row(0, 0, 61));
        only("row, -14", ON, x -> x.row(0, 0, -1));
        only("put, -11", ON, x -> x.put(4, 0, 1));
        only("put, -12", ON, x -> x.put(3, 0, 1));
        only("put, -13", ON, x -> x.put(0, 3, 1));
        only("shift, -13", ON, x -> x.shift(0, 0, 1, 1, 3));
    }

    // ---- what is looked at, each for itself

    private static void only(String what, House.Made state, House.Call call, String... parts) {
        Set<String> changed = new TreeSet<>();
        for (Map.Entry<String, String> before : SEEN.computeIfAbsent(state, OnlyThatTest::seen).entrySet()) {
            TuneAndWords x = state.x();
            call.on(x);
            if (!look(before.getKey(), x).equals(before.getValue())) changed.add(before.getKey());
        }
        Set<String> due = new TreeSet<>(Set.of(parts));
        Check.holds(what + " changes " + due + ", it changed " + changed, changed.equals(due));
    }

    private static Map<String, String> seen(House.Made state) {
        Map<String, String> all = new LinkedHashMap<>();
        for (String part : LOOKS.keySet()) all.put(part, look(part, state.x()));
        return all;
    }

    private static String look(String part, TuneAndWords x) {
        StringBuilder seen = new StringBuilder();
        LOOKS.get(part).at(x, seen);
        return seen.toString();
    }

    /** What the tests above rely on: the states are as rich as they are meant to be. */
    private static void looksSeeSomething() {
        TuneAndWords x = singing();
        Check.due("a singing is on", 3, x.led(4));
        Check.due("it goes on", 3, x.on());
        Check.due("CHANGES that may be UNDONE", 4, x.count(3));
        Check.due("bodies that ran", 10, x.count(5));
        Check.due("no singing is on", -5, OVER.x().led(4));
        Check.due("singings", 2, OVER.x().led(0));
        int[] sures = {5, 5, 7, 6};
        for (int singer = 0; singer < 4; singer++) Check.due("SURE", sures[singer], x.of(singer, 3));
        Check.due("CHANGES that may be DONE AGAIN", 1, x.redo());
        // The TUNES, and by their places who HAS tune and words, of each SONG.
        lineUp(0, new int[] {1, 2, 3, 4, 1}, new int[] {1, 1, 0, 3, 0}, new int[] {4, 4, 4, 0, 0});
        lineUp(1, new int[] {3, 4, 1, 2, 5, 6}, new int[] {2, 2, 2, 2, 2, 2}, new int[] {2, 2, 2, 2, 2, 2});
        lineUp(2, new int[] {5, 5, 7, 2, 5}, new int[] {8, 8, 8, 8, 8}, new int[] {1, 1, 1, 0, 1});
    }

    private static void lineUp(int song, int[] tunes, int[] haveTune, int[] haveWords) {
        TuneAndWords x = singing();
        Check.due("LINES", tunes.length, x.of(song, 5));
        for (int line = 0; line < tunes.length; line++) {
            Check.due("TUNE", tunes[line], x.of(100 * song + line, 0));
            Check.due("WORD", song == 0 && line == 1 ? 6 : 0, x.of(100 * song + line, 1));
            Check.due("RHYME", 0, x.of(100 * song + line, 2));
            Check.due("who HAS its tune", haveTune[line], x.of(100 * song + line, 6));
            Check.due("who HAS its words", haveWords[line], x.of(100 * song + line, 7));
        }
    }

    private static void add(StringBuilder seen, long answer) {
        seen.append(answer).append(' ');
    }

    private static void lines(TuneAndWords x, StringBuilder seen) {
        for (int song = 0; song < 3; song++) {
            add(seen, x.of(song, 5));
            for (int line = 0; line < 12; line++) {
                for (int what = 0; what < 3; what++) add(seen, x.of(100 * song + line, what));
            }
        }
        add(seen, x.count(0));
    }

    private static void bits(TuneAndWords x, StringBuilder seen) {
        for (int song = 0; song < 3; song++) {
            for (int line = 0; line < 12; line++) {
                for (int what = 6; what < 8; what++) add(seen, Math.max(0, x.of(100 * song + line, what)));
            }
        }
        add(seen, x.count(1));
    }

    private static void sure(TuneAndWords x, StringBuilder seen) {
        for (int singer = 0; singer < 4; singer++) add(seen, x.of(singer, 3));
    }

    private static void law(TuneAndWords x, StringBuilder seen) {
        for (int line = 0; line < 5; line++) {
            seen.append(Given.sung(x, 200 + line)).append(' ').append(x.sing(200 + line, 1)).append(' ');
        }
    }

    private static void tape(TuneAndWords x, StringBuilder seen) {
        add(seen, x.count(2));
        add(seen, x.law());
        if (seen.indexOf("-1") < 0) law(x, seen);
    }

    private static void goesOn(TuneAndWords x, StringBuilder seen) {
        for (int i = 0; i < 61; i++) {
            add(seen, x.led(4));
            add(seen, x.on());
        }
    }

    private static void led(TuneAndWords x, StringBuilder seen) {
        for (int what = 0; what < 4; what++) add(seen, x.led(what));
    }

    private static void image(TuneAndWords x, StringBuilder seen) {
        add(seen, x.back());
        bits(x, seen);
        led(x, seen);
        goesOn(x, seen);
    }

    private static void undo(TuneAndWords x, StringBuilder seen) {
        for (int i = 0; i < 41; i++) {
            add(seen, x.count(3));
            add(seen, x.undo());
        }
        numbers(x, seen);
    }

    private static void redo(TuneAndWords x, StringBuilder seen) {
        int n = 0;
        for (int due = x.redo(); due >= 0 && n < 41; due = x.redo()) {
            add(seen, due);
            n++;
        }
        add(seen, n == 0 ? -5 : x.of(2, 2));
        add(seen, n == 0 ? -5 : x.of(2, 3));
    }

    /** Those numbers that the state's CHANGES are of. */
    private static void numbers(TuneAndWords x, StringBuilder seen) {
        sure(x, seen);
        add(seen, x.of(1, 1));
        add(seen, x.of(2, 2));
        add(seen, x.of(4, 0));
        add(seen, x.of(0, 4));
    }

    private static void bodies(TuneAndWords x, StringBuilder seen) {
        add(seen, x.count(4));
        for (int body = 0; body < 50; body++) {
            add(seen, x.keep(0, body));
            add(seen, x.keep(0, body) == 1 ? x.taken(0, 0) : -1);
        }
        for (int body = 0; body < 8; body++) add(seen, x.act(body, 0, 3));
    }

    private static void trace(TuneAndWords x, StringBuilder seen) {
        add(seen, x.count(5));
        for (int i = 0; i < 24; i++) add(seen, x.trace(i));
    }

    private static void shelf(TuneAndWords x, int shelf, StringBuilder seen) {
        for (int kind = 0; kind < 8; kind++) add(seen, x.taken(shelf, kind));
        for (int i = 0; i < 60; i++) add(seen, x.element(shelf, i));
        add(seen, x.put(shelf, 0, 0x0807060504030201L));
        add(seen, x.element(shelf, 0));
    }
}
