/** Short ways to bring an object into a state, for the tests. */
final class Given {
    /** A SONG 0 with LINES by their TUNES, WORD and RHYME 0. */
    static TuneAndWords tunes(int... tunes) {
        TuneAndWords x = new TuneAndWords();
        addTunes(x, 0, tunes);
        return x;
    }

    static void addTunes(TuneAndWords x, int song, int... tunes) {
        for (int tune : tunes) x.line(song, 100 * tune);
    }

    /** A SINGER learns the tune (what 0), the words (1), or both (2) of LINES of a SONG. */
    static void learn(TuneAndWords x, int singer, int song, int what, int... lines) {
        for (int line : lines) {
            if (what != 1) x.has(singer, 100 * song + line, 0, 1);
            if (what != 0) x.has(singer, 100 * song + line, 1, 1);
        }
    }

    /** A SONG 0 of n LINES, all unlike (up to eight), all of which SINGER 0 HAS. */
    static TuneAndWords known(int n) {
        TuneAndWords x = new TuneAndWords();
        for (int i = 0; i < n; i++) {
            x.line(0, 111 * (i % 8));
            learn(x, 0, 0, 2, i);
        }
        return x;
    }

    static int law(TuneAndWords x, String text) {
        for (int i = 0; i < text.length(); i++) x.feed(text.charAt(i));
        return x.law();
    }

    static void row(TuneAndWords x, int shelf, int... bytes) {
        x.row(shelf, 0, bytes.length);
        for (int i = 0; i < bytes.length; i++) x.put(shelf, i, bytes[i]);
    }

    /** The LINES of a singing in thought, a letter each: a is LINE 0. */
    static String sung(TuneAndWords x, int sl) {
        StringBuilder all = new StringBuilder();
        for (int k = 0; k < 61 && x.sung(sl, k, 0) >= 0; k++) all.append((char) ('a' + x.sung(sl, k, 0)));
        return all.toString();
    }

    static String broughtUp(TuneAndWords x, int sl) {
        StringBuilder all = new StringBuilder();
        for (int k = 1; k < 61 && x.sung(sl, k, 1) >= 0; k++) all.append(x.sung(sl, k, 1));
        return all.toString();
    }
}
