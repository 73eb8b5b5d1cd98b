import java.util.Arrays;

/**
 * Songs of lines with tunes, words and rhymes, singers who have some of each, and how far they
 * get together. README.md says how to use it; the document's promises say what each call answers.
 *
 * <p>Everything is made in the constructor and used again: no call makes an object.
 */
public final class TuneAndWords {
    public static final int BAD = -1, NOT = -2, FULL = -3, STATE = -5, VOID = -2000000000;

    private static final int NOTHING_THERE = -11, OTHER_KIND = -12, NO_PLACE = -13, NO_SIZE = -14;
    private static final int GOES_ROUND = -6, STUCK_AT = -20, FAULT_AT = -100;

    private static final int SONGS = 3, LINES = 12, SINGERS = 4, SHELVES = 6;
    private static final int PARTS = 8, SURES = 10, FORGETTING = 13, FIRST_SURE = 5;
    private static final int SUNG_MOST = 60, TAPE_MOST = 120, NIGHTS_MOST = 20, BITS_TRIED = 2;
    private static final int BYTES = 0, BOOLEANS = 4, SORTS = 5, ROW_MOST = 60;

    private static final int TUNE = 0, WORD = 1, RHYME = 2, SURE = 3, FORGETS = 4;
    private static final int ENDS = 0, STICKS = 1, ROUND = 2, GOING = 3;

    private static final String FIRST_LAW = "a*8+t+w*2+r-k*3";

    private final Song[] songs = new Song[SONGS];
    private final Choir choir;
    private final Singing thought;
    private final Tape tape;
    private final Deed deed;
    private final Deed deedOfImage;
    private final Changes changes = new Changes();
    private final Acts acts = new Acts();
    private final Shelf[] shelves = new Shelf[SHELVES];
    private Law spareLaw = new Law();
    private int forgets;
    private boolean imageKept;

    public TuneAndWords() {
        for (int i = 0; i < songs.length; i++) songs[i] = new Song();
        for (int i = 0; i < shelves.length; i++) shelves[i] = new Shelf();
        Song first = new Song();
        choir = new Choir(new Law());
        thought = new Singing(first);
        deed = new Deed(first);
        deedOfImage = new Deed(first);
        tape = new Tape(choir.law);
        for (int i = 0; i < FIRST_LAW.length(); i++) tape.take(FIRST_LAW.charAt(i));
        tape.readInto(choir.law);
    }

    // ---- songs, singers

    public int line(int song, int twr) {
        Song it = songAt(song);
        if (it == null || twr < 0) return BAD;
        int tune = twr / 100, word = twr / 10 % 10, rhyme = twr % 10;
        if (!Song.mayBe(tune, word, rhyme)) return BAD;
        if (it.isFull()) return FULL;
        return it.addLine(tune, word, rhyme);
    }

    public int lines(int song, int shelf, int i, int n) {
        Song it = songAt(song);
        Shelf from = shelfAt(shelf);
        if (it == null || from == null || n < 1 || n > LINES) return BAD;
        if (from.isEmpty()) return 0;
        if (!from.isRowOfBytes()) return OTHER_KIND;
        if (i < 0) return 0;
        int came = 0;
        // i is looked at against the length first, so that i + 3 * came can't wrap.
        while (came < n && i < from.length() && from.isPlace(i + 3 * came + 2)) {
            int at = i + 3 * came;
            int tune = from.small(at), word = from.small(at + 1), rhyme = from.small(at + 2);
            if (it.isFull() || !Song.mayBe(tune, word, rhyme)) break;
            it.addLine(tune, word, rhyme);
            came++;
        }
        return came;
    }

    public int has(int singer, int sl, int what, int v) {
        Song song = songWithLine(sl);
        if (song == null || !isOf(singer, SINGERS) || !isOf(what, 2) || !isOf(v, 2)) return BAD;
        int bit = Song.bit(singer, lineOf(sl), what);
        int was = song.isHad(bit) ? 1 : 0;
        song.setHad(bit, v == 1);
        return was;
    }

    public int mend(int number, int what, int v) {
        if (!isMendable(number, what) || !isOf(v, numbersFor(what))) return BAD;
        int was = told(number, what);
        if (v != was) {
            changes.add(number, what, was, v);
            become(number, what, v);
        }
        return was;
    }

    public int of(int number, int what) {
        if (isMendable(number, what)) return told(number, what);
        if (what == 5) {
            Song song = songAt(number);
            return song == null ? BAD : song.size();
        }
        Song song = songWithLine(number);
        if (song == null || (what != 6 && what != 7)) return BAD;
        return song.havers(lineOf(number), what - 6);
    }

    public int feed(int letter) {
        if (!isOf(letter, 256)) return BAD;
        if (tape.isFull()) return FULL;
        tape.take(letter);
        return tape.length();
    }

    public int law() {
        int fault = tape.readInto(spareLaw);
        if (fault >= 0) return FAULT_AT - fault;
        Law before = choir.law;
        choir.law = spareLaw;
        spareLaw = before;
        return 1;
    }

    // ---- singings in thought

    public int sing(int sl, int what) {
        Song song = songWithLine(sl);
        if (song == null || !isOf(what, 4)) return BAD;
        choir.goThrough(thought, song, lineOf(sl));
        switch (what) {
            case 0: return thought.size();
            case 1: return thought.outcome();
            case 2: return thought.where();
            default: return thought.right();
        }
    }

    public int sung(int sl, int k, int what) {
        Song song = songWithLine(sl);
        if (song == null || k < 0 || !isOf(what, 2)) return BAD;
        choir.goThrough(thought, song, lineOf(sl));
        if (k >= thought.size()) return NOT;
        return what == 0 ? thought.lineAt(k) : thought.broughtUpBy(k);
    }

    public int runUp(int song, int what) {
        Song it = songAt(song);
        if (it == null || !isOf(what, 4)) return BAD;
        int where = NOT, most = NOT, sungRight = 0, nobody = 0;
        for (int line = 0; line < it.size(); line++) {
            int right = choir.rightFrom(thought, it, line);
            sungRight |= ((1 << right) - 1) << line;
            if (!it.canBeSung(line)) nobody |= 1 << line;
            if (right > most) {
                most = right;
                where = line;
            }
        }
        switch (what) {
            case 0: return where;
            case 1: return most;
            case 2: return sungRight;
            default: return nobody;
        }
    }

    public int oneBit(int song, int what) {
        Song it = songAt(song);
        if (it == null || !isOf(what, 4)) return BAD;
        int most = NOT, best = NOT;
        for (int bit = 0; bit < Song.BITS; bit++) {
            if (!it.isLacked(bit)) continue;
            it.setHad(bit, true);
            int right = choir.rightFrom(thought, it, 0);
            it.setHad(bit, false);
            if (right > most) {
                most = right;
                best = bit;
            }
        }
        if (best < 0) return NOT;
        switch (what) {
            case 0: return Song.singerOf(best);
            case 1: return Song.lineOf(best);
            case 2: return Song.whichOf(best);
            default: return most;
        }
    }

    public int fewest(int song) {
        Song it = songAt(song);
        return it == null ? BAD : fewestBehind(choir, thought, it, 0);
    }

    /**
     * Only bits of the first LINE that isn't right are tried: a bit of another LINE only adds to
     * what is in mind beside it, so that without one of its own it would still not be sung there.
     */
    private static int fewestBehind(Choir choir, Singing thought, Song song, int given) {
        int right = choir.rightFrom(thought, song, 0);
        if (right >= song.size()) return given;
        if (given >= BITS_TRIED) return NOT;
        int best = NOT;
        for (int singer = 0; singer < SINGERS; singer++) {
            for (int which = 0; which < 2; which++) {
                int bit = Song.bit(singer, right, which);
                if (!song.isLacked(bit)) continue;
                song.setHad(bit, true);
                int found = fewestBehind(choir, thought, song, given + 1);
                song.setHad(bit, false);
                if (found >= 0 && (best < 0 || found < best)) best = found;
            }
        }
        return best;
    }

    public int evenings(int song, int singer) {
        Song it = songAt(song);
        if (it == null || !isOf(singer, SINGERS)) return BAD;
        int lacks = 0;
        for (int line = 0; line < it.size(); line++) {
            for (int which = 0; which < 2; which++) {
                if (it.isHad(Song.bit(singer, line, which))) continue;
                if (it.havers(line, which) == 0) return NOT;
                lacks++;
            }
        }
        return lacks;
    }

    // ---- heard, told, two songs

    public int which(int shelf) {
        Shelf heard = shelfAt(shelf);
        if (heard == null) return BAD;
        int refusal = heard.refusalOfBytes();
        if (refusal < 0) return refusal;
        int bits = 0;
        for (int i = 0; i < songs.length; i++) {
            if (songs[i].placeOf(heard) >= 0) bits |= 1 << i;
        }
        return bits;
    }

    public int from(int shelf, int song) {
        Shelf heard = shelfAt(shelf);
        Song it = songAt(song);
        if (heard == null || it == null) return BAD;
        int refusal = heard.refusalOfBytes();
        return refusal < 0 ? refusal : it.placeOf(heard);
    }

    public int judge(int shelf, int song) {
        Shelf told = shelfAt(shelf);
        Song it = songAt(song);
        if (told == null || it == null) return BAD;
        int refusal = told.refusalOfBytes();
        return refusal < 0 ? refusal : firstNotSo(told, it);
    }

    private int firstNotSo(Shelf told, Song song) {
        if (told.length() == 0) return NOT;
        if (!song.isLine(told.small(0))) return 0;
        choir.start(thought, song, told.small(0));
        for (int i = 0; i < told.length(); i++) {
            if (i > 0) choir.goOn(thought);
            if (i >= thought.size() || thought.lineAt(i) != told.small(i)) return i;
        }
        return NOT;
    }

    public long lacked(int shelf, int song) {
        Shelf told = shelfAt(shelf);
        Song it = songAt(song);
        if (told == null || it == null || !told.isRowOfBytes()) return Long.MIN_VALUE;
        long bits = 0;
        for (int line = 0; line < it.size(); line++) {
            for (int singer = 0; singer < SINGERS; singer++) {
                if (mayHaveLacked(told, it, singer, line)) bits |= 1L << (SINGERS * line + singer);
            }
        }
        return bits;
    }

    private boolean mayHaveLacked(Shelf told, Song song, int singer, int line) {
        int tuneBit = Song.bit(singer, line, 0), wordsBit = Song.bit(singer, line, 1);
        boolean tuneHad = song.isHad(tuneBit), wordsHad = song.isHad(wordsBit);
        song.setHad(tuneBit, false);
        song.setHad(wordsBit, false);
        boolean so = firstNotSo(told, song) == NOT;
        song.setHad(tuneBit, tuneHad);
        song.setHad(wordsBit, wordsHad);
        return so;
    }

    public int two(int ab, int what) {
        Song one = ab < 0 ? null : songAt(ab / 10), other = ab < 0 ? null : songAt(ab % 10);
        if (one == null || other == null || one == other || !isOf(what, 3)) return BAD;
        int longest = 0, inOne = NOT, inOther = NOT;
        for (int i = 0; i < one.size(); i++) {
            for (int j = 0; j < other.size(); j++) {
                int n = one.alikeFrom(i, other, j);
                if (n > longest) {
                    longest = n;
                    inOne = i;
                    inOther = j;
                }
            }
        }
        if (what == 0) return longest;
        return what == 1 ? inOne : inOther;
    }

    public int mixed(int sl, int other) {
        Song song = songWithLine(sl), second = songAt(other);
        if (song == null || second == null || song == second) return BAD;
        int tunes = second.tunesHad();
        choir.goThrough(thought, song, lineOf(sl));
        for (int k = 0; k < thought.size(); k++) {
            int tune = song.part(thought.lineAt(k), TUNE);
            if ((tunes >> tune & 1) == 1) return k;
        }
        return NOT;
    }

    public int drawn(int song, int seed, int n, int what) {
        Song it = songAt(song);
        if (it == null || n < 1 || n > NIGHTS_MOST || !isOf(what, 2)) return BAD;
        it.setAside();
        int z = seed, right = 0;
        for (int night = 0; night < n; night++) {
            z = forgetBy(z, it);
            right += choir.rightFrom(thought, it, 0);
        }
        int left = it.bitsHad();
        it.takeBack();
        return what == 0 ? right : left;
    }

    private int forgetBy(int drawnBefore, Song song) {
        int z = drawnBefore;
        for (int bit = 0; bit < Song.BITS; bit++) {
            if (!song.isHad(bit)) continue;
            z = z * 1103515245 + 12345;
            if ((z >>> 8) % 12 < forgets) song.setHad(bit, false);
        }
        return z;
    }

    // ---- in deed

    public int begin(int sl) {
        Song song = songWithLine(sl);
        if (song == null) return BAD;
        if (deed.isOn()) return STATE;
        choir.start(deed.singing, song, lineOf(sl));
        deed.tellBegun();
        return deed.isOn() ? 1 : 0;
    }

    public int on() {
        if (!deed.isOn()) return STATE;
        Singing singing = deed.singing;
        choir.goOn(singing);
        deed.tellGoneOn();
        switch (singing.outcome()) {
            case STICKS: return STUCK_AT - singing.where();
            case ENDS: return NOT;
            case ROUND: return GOES_ROUND;
            default: return singing.last();
        }
    }

    public int led(int what) {
        switch (what) {
            case 0: return deed.singings;
            case 1: return deed.linesSung;
            case 2: return deed.sticks;
            case 3: return deed.longest;
            case 4: return deed.isOn() ? deed.singing.size() : STATE;
            default: return BAD;
        }
    }

    public int image() {
        for (int i = 0; i < songs.length; i++) songs[i].keepImage();
        deedOfImage.copyFrom(deed);
        imageKept = true;
        return deed.singings;
    }

    public int back() {
        if (!imageKept) return STATE;
        for (int i = 0; i < songs.length; i++) songs[i].layImageBack();
        deed.copyFrom(deedOfImage);
        return deed.singings;
    }

    public int undo() {
        if (changes.undoable() == 0) return STATE;
        int i = changes.stepBack();
        become(changes.number(i), changes.what(i), changes.before(i));
        return changes.undoable();
    }

    public int redo() {
        if (changes.redoable() == 0) return STATE;
        int i = changes.stepAhead();
        become(changes.number(i), changes.what(i), changes.after(i));
        return changes.redoable();
    }

    // ---- acts, shelves

    public int body(int kind) {
        if (!Acts.isKind(kind)) return BAD;
        return acts.isFull() ? FULL : acts.addBody(kind);
    }

    public int act(int body, int act, int x) {
        return acts.perform(body, act, x);
    }

    public int trace(int i) {
        return acts.traced(i);
    }

    public int keep(int shelf, int body) {
        Shelf it = shelfAt(shelf);
        if (it == null || (body != -1 && !acts.isBody(body))) return BAD;
        if (body == -1) it.holdNothing();
        else it.holdBody(body);
        return 1;
    }

    public int row(int shelf, int sort, int n) {
        Shelf it = shelfAt(shelf);
        if (it == null || !isOf(sort, SORTS) || n > ROW_MOST) return BAD;
        if (n < 0) return NO_SIZE;
        it.holdRow(sort, n);
        return 1;
    }

    public int put(int shelf, int i, long v) {
        Shelf it = shelfAt(shelf);
        if (it == null) return BAD;
        int refusal = it.refusalOfRow();
        if (refusal < 0) return refusal;
        if (!it.isPlace(i)) return NO_PLACE;
        it.become(i, v);
        return 1;
    }

    public long element(int shelf, int i) {
        Shelf it = shelfAt(shelf);
        if (it == null || !it.isRow() || !it.isPlace(i)) return Long.MIN_VALUE;
        return it.cell(i);
    }

    public int shift(int shelf, int i, int other, int j, int n) {
        Shelf source = shelfAt(shelf), target = shelfAt(other);
        if (source == null || target == null) return BAD;
        if (source.isEmpty() || target.isEmpty()) return NOTHING_THERE;
        if (!source.isRowLike(target)) return OTHER_KIND;
        if (!source.hasStretch(i, n) || !target.hasStretch(j, n)) return NO_PLACE;
        source.copyTo(i, target, j, n);
        return n;
    }

    public int taken(int shelf, int k) {
        Shelf it = shelfAt(shelf);
        if (it == null || !Acts.isKind(k)) return BAD;
        if (it.isEmpty()) return NOTHING_THERE;
        if (it.isRow()) return OTHER_KIND;
        int kind = acts.kindOf(it.bodyHeld());
        return Acts.isUnder(kind, k) ? kind : OTHER_KIND;
    }

    public int count(int what) {
        switch (what) {
            case 0: return linesOfAll();
            case 1: return bitsOfAll();
            case 2: return tape.length();
            case 3: return changes.undoable();
            case 4: return acts.bodies();
            case 5: return acts.ran();
            default: return BAD;
        }
    }

    private int linesOfAll() {
        int n = 0;
        for (int i = 0; i < songs.length; i++) n += songs[i].size();
        return n;
    }

    private int bitsOfAll() {
        int n = 0;
        for (int i = 0; i < songs.length; i++) n += songs[i].bitsHad();
        return n;
    }

    // ---- numbers told

    private static boolean isOf(int number, int n) {
        return number >= 0 && number < n;
    }

    private Song songAt(int song) {
        return isOf(song, songs.length) ? songs[song] : null;
    }

    private Shelf shelfAt(int shelf) {
        return isOf(shelf, shelves.length) ? shelves[shelf] : null;
    }

    private Song songWithLine(int sl) {
        if (sl < 0) return null;
        Song song = songAt(sl / 100);
        return song != null && song.isLine(lineOf(sl)) ? song : null;
    }

    private static int lineOf(int sl) {
        return sl % 100;
    }

    private boolean isMendable(int number, int what) {
        switch (what) {
            case TUNE:
            case WORD:
            case RHYME: return songWithLine(number) != null;
            case SURE: return isOf(number, SINGERS);
            case FORGETS: return number == 0;
            default: return false;
        }
    }

    private static int numbersFor(int what) {
        if (what == SURE) return SURES;
        return what == FORGETS ? FORGETTING : PARTS;
    }

    private int told(int number, int what) {
        if (what == SURE) return Cells.at(choir.sure, number);
        if (what == FORGETS) return forgets;
        Song song = songWithLine(number);
        return song == null ? BAD : song.part(lineOf(number), what);
    }

    private void become(int number, int what, int v) {
        if (what == SURE) {
            Cells.set(choir.sure, number, v);
        } else if (what == FORGETS) {
            forgets = v;
        } else {
            Song song = songWithLine(number);
            if (song != null) song.setPart(lineOf(number), what, v);
        }
    }

    /** Looks at an index before it is used, so that none of the places below has to. */
    private static final class Cells {
        static int at(int[] cells, int i) {
            return i >= 0 && i < cells.length ? cells[i] : 0;
        }

        static void set(int[] cells, int i, int v) {
            if (i >= 0 && i < cells.length) cells[i] = v;
        }

        static void copy(int[] from, int[] to) {
            System.arraycopy(from, 0, to, 0, Math.min(from.length, to.length));
        }
    }

    /**
     * A SONG's LINES and who has what of them. A bit is told by one number, so that counting up
     * goes by SINGERS, then LINES, tune ahead of words: the order that the document wants.
     */
    private static final class Song {
        static final int BITS = SINGERS * LINES * 2;

        private final int[] parts = new int[3 * LINES];
        private final int[] havers = new int[2 * LINES];
        private final int[] haversAside = new int[2 * LINES];
        private final int[] haversOfImage = new int[2 * LINES];
        private int size;

        static boolean mayBe(int tune, int word, int rhyme) {
            return isOf(tune, PARTS) && isOf(word, PARTS) && isOf(rhyme, PARTS);
        }

        int size() {
            return size;
        }

        boolean isFull() {
            return size >= LINES;
        }

        boolean isLine(int line) {
            return line >= 0 && line < size;
        }

        int addLine(int tune, int word, int rhyme) {
            setPart(size, TUNE, tune);
            setPart(size, WORD, word);
            setPart(size, RHYME, rhyme);
            size++;
            return size - 1;
        }

        int part(int line, int which) {
            return Cells.at(parts, 3 * line + which);
        }

        void setPart(int line, int which, int v) {
            Cells.set(parts, 3 * line + which, v);
        }

        static int bit(int singer, int line, int which) {
            return (singer * LINES + line) * 2 + which;
        }

        static int singerOf(int bit) {
            return bit / (2 * LINES);
        }

        static int lineOf(int bit) {
            return bit / 2 % LINES;
        }

        static int whichOf(int bit) {
            return bit % 2;
        }

        boolean isHad(int bit) {
            return (Cells.at(havers, bit % (2 * LINES)) >> singerOf(bit) & 1) == 1;
        }

        boolean isLacked(int bit) {
            return isLine(lineOf(bit)) && !isHad(bit);
        }

        void setHad(int bit, boolean had) {
            int i = bit % (2 * LINES), singer = 1 << singerOf(bit);
            int others = Cells.at(havers, i) & ~singer;
            Cells.set(havers, i, had ? others | singer : others);
        }

        int havers(int line, int which) {
            return Cells.at(havers, 2 * line + which);
        }

        int minds(int line) {
            return havers(line, 0) | havers(line, 1);
        }

        boolean canBeSung(int line) {
            return havers(line, 0) != 0 && havers(line, 1) != 0;
        }

        int bitsHad() {
            int n = 0;
            for (int i = 0; i < havers.length; i++) n += Integer.bitCount(havers[i]);
            return n;
        }

        /** What the law may ask of two LINES, in bits: a, t, w, r. */
        int likeness(int sungLine, int line) {
            int bits = line == sungLine + 1 ? 1 : 0;
            for (int which = TUNE; which <= RHYME; which++) {
                if (part(line, which) == part(sungLine, which)) bits |= 2 << which;
            }
            return bits;
        }

        int tunesHad() {
            int tunes = 0;
            for (int line = 0; line < size; line++) {
                if (havers(line, 0) != 0) tunes |= 1 << part(line, TUNE);
            }
            return tunes;
        }

        int placeOf(Shelf heard) {
            for (int line = 0; line + heard.length() <= size; line++) {
                int n = 0;
                while (n < heard.length() && part(line + n, TUNE) == heard.small(n)) n++;
                if (n == heard.length()) return line;
            }
            return NOT;
        }

        int alikeFrom(int line, Song other, int otherLine) {
            int n = 0;
            while (n < LINES && isLine(line + n) && other.isLine(otherLine + n)
                    && part(line + n, TUNE) == other.part(otherLine + n, TUNE)) n++;
            return n;
        }

        void setAside() {
            Cells.copy(havers, haversAside);
        }

        void takeBack() {
            Cells.copy(haversAside, havers);
        }

        void keepImage() {
            Cells.copy(havers, haversOfImage);
        }

        void layImageBack() {
            Cells.copy(haversOfImage, havers);
        }
    }

    /**
     * THE LAW as steps on a stack, each operator behind what it works on. What it gave is kept for
     * the cases that come most often, since one call may ask for the same thing thousands of times.
     */
    private static final class Law {
        static final int NUMBER = '0', NAME = 'a', NEGATE = '~', COUNTS = ';', IF = '?';
        private static final int STEPS = TAPE_MOST + 8, KEPT_TIMES = 4, LIKENESSES = 16;
        /** Two zeros lie under the stack, so that one look at its height is enough for any step. */
        private static final int GROUND = 2;

        private final int[] steps = new int[STEPS];
        private final int[] with = new int[STEPS];
        private final int[] stack = new int[STEPS];
        private final int[] names = new int[6];
        private final int[] given = new int[KEPT_TIMES * SURES * LIKENESSES];
        private final int[] isGiven = new int[KEPT_TIMES * SURES * LIKENESSES];
        private int size;

        void clear() {
            size = 0;
            Arrays.fill(isGiven, 0);
        }

        void add(int step, int number) {
            if (size >= steps.length || size >= with.length) return;
            steps[size] = step;
            with[size] = number;
            size++;
        }

        int size() {
            return size;
        }

        void leadOn(int ifStep) {
            Cells.set(with, ifStep, size);
        }

        int gives(int likeness, int sure, int times) {
            int i = (times * SURES + sure) * LIKENESSES + likeness;
            if (i < 0 || i >= given.length || i >= isGiven.length) return work(likeness, sure, times);
            if (isGiven[i] == 0) {
                given[i] = work(likeness, sure, times);
                isGiven[i] = 1;
            }
            return given[i];
        }

        private int work(int likeness, int sure, int times) {
            for (int i = 0; i < 4; i++) Cells.set(names, i, likeness >> i & 1);
            Cells.set(names, 4, sure);
            Cells.set(names, 5, times);
            int top = GROUND, next = 0;
            for (int at = 0; at < size && at < steps.length && at < with.length; at++) {
                if (top < GROUND || top >= stack.length) return 0;
                if (at < next) continue;
                switch (steps[at]) {
                    case NUMBER: stack[top++] = with[at]; break;
                    case NAME: stack[top++] = Cells.at(names, with[at]); break;
                    case NEGATE: stack[top - 1] = -stack[top - 1]; break;
                    case '!': stack[top - 1] = stack[top - 1] == 0 ? 1 : 0; break;
                    case COUNTS: return stack[top - 1];
                    case IF:
                        top--;
                        if (stack[top] == 0) next = with[at];
                        break;
                    default:
                        top--;
                        stack[top - 1] = both(steps[at], stack[top - 1], stack[top]);
                }
            }
            return 0;
        }

        private static int both(int operator, int a, int b) {
            switch (operator) {
                case '|': return a != 0 || b != 0 ? 1 : 0;
                case '&': return a != 0 && b != 0 ? 1 : 0;
                case '<': return a < b ? 1 : 0;
                case '=': return a == b ? 1 : 0;
                case '>': return a > b ? 1 : 0;
                case '+': return a + b;
                case '-': return a - b;
                case '*': return a * b;
                case '/': return b == 0 ? 0 : a / b;
                case '%': return b == 0 ? 0 : a % b;
                default: return 0;
            }
        }
    }

    /**
     * THE TAPE, and how it is read as a TEXT. Where that fails the place stands still and peek()
     * answers END, so that all that is under way comes to its end without a further look.
     */
    private static final class Tape {
        private static final int END = -1, NO_OPERATOR = -2;
        private static final int COMPARING = 2, LEVELS = 5, OPEN_MOST = 6, DIGITS_MOST = 4;

        private final int[] bytes = new int[TAPE_MOST];
        private int length;
        private Law law;
        private int place;
        private boolean failed;

        Tape(Law first) {
            law = first;
        }

        boolean isFull() {
            return length >= bytes.length;
        }

        int length() {
            return length;
        }

        void take(int letter) {
            if (isFull()) return;
            Cells.set(bytes, length, letter);
            length++;
        }

        /** Empties THE TAPE. The FAULT's place; -1, if there is none. */
        int readInto(Law into) {
            law = into;
            law.clear();
            place = 0;
            failed = false;
            readLine();
            for (int i = 0; i < TAPE_MOST && peek() == ';'; i++) {
                place++;
                readLine();
            }
            int fault = failed || place < length ? place : -1;
            length = 0;
            return fault;
        }

        private int peek() {
            return failed || place >= length ? END : Cells.at(bytes, place);
        }

        private void readLine() {
            readTerms(0, 0);
            if (peek() != '?') {
                law.add(Law.COUNTS, 0);
                return;
            }
            place++;
            int ifStep = law.size();
            law.add(Law.IF, 0);
            readTerms(0, 0);
            law.add(Law.COUNTS, 0);
            law.leadOn(ifStep);
        }

        /** E, A, B, S and P are levels 0 to 4 of the same reading. */
        private void readTerms(int level, int open) {
            if (level >= LEVELS) {
                readOperand(open);
                return;
            }
            readTerms(level + 1, open);
            for (int i = 0; i < TAPE_MOST && levelOf(peek()) == level; i++) {
                int operator = peek();
                place++;
                readTerms(level + 1, open);
                law.add(operator, 0);
                if (level == COMPARING) return;
            }
        }

        private void readOperand(int open) {
            int c = peek();
            if (c >= '0' && c <= '9') {
                readNumber();
            } else if (nameOf(c) >= 0) {
                place++;
                law.add(Law.NAME, nameOf(c));
            } else if ((c == '(' || c == '!' || c == '-') && open < OPEN_MOST) {
                place++;
                if (c == '(') {
                    readTerms(0, open + 1);
                    if (peek() == ')') place++;
                    else failed = true;
                } else {
                    readOperand(open + 1);
                    law.add(c == '-' ? Law.NEGATE : c, 0);
                }
            } else {
                failed = true;
            }
        }

        private void readNumber() {
            int number = 0;
            for (int i = 0; i < DIGITS_MOST && peek() >= '0' && peek() <= '9'; i++) {
                number = number * 10 + peek() - '0';
                place++;
            }
            law.add(Law.NUMBER, number);
        }

        private static int nameOf(int c) {
            switch (c) {
                case 'a': return 0;
                case 't': return 1;
                case 'w': return 2;
                case 'r': return 3;
                case 's': return 4;
                case 'k': return 5;
                default: return -1;
            }
        }

        private static int levelOf(int c) {
            switch (c) {
                case '|': return 0;
                case '&': return 1;
                case '<':
                case '=':
                case '>': return COMPARING;
                case '+':
                case '-': return 3;
                case '*':
                case '/':
                case '%': return 4;
                default: return NO_OPERATOR;
            }
        }
    }

    /** What has been sung of a SONG in one singing; how it came out and where, once it has. */
    private static final class Singing {
        private final int[] lines = new int[SUNG_MOST];
        private final int[] by = new int[SUNG_MOST];
        private final int[] times = new int[LINES];
        private Song song;
        private int sung;
        private int right;
        private int outcome = ENDS;
        private int where;

        Singing(Song first) {
            song = first;
        }

        void clear(Song ofSong) {
            song = ofSong;
            sung = 0;
            right = 0;
            outcome = GOING;
            where = 0;
            Arrays.fill(times, 0);
        }

        void add(int line, int singer) {
            if (right == sung && (sung == 0 || line == last() + 1)) right++;
            Cells.set(lines, sung, line);
            Cells.set(by, sung, singer);
            Cells.set(times, line, Cells.at(times, line) + 1);
            sung++;
        }

        void comeOut(int how, int line) {
            outcome = how;
            where = line;
        }

        void copyFrom(Singing other) {
            Cells.copy(other.lines, lines);
            Cells.copy(other.by, by);
            Cells.copy(other.times, times);
            song = other.song;
            sung = other.sung;
            right = other.right;
            outcome = other.outcome;
            where = other.where;
        }

        Song song() {
            return song;
        }

        int size() {
            return sung;
        }

        int right() {
            return right;
        }

        int outcome() {
            return outcome;
        }

        int where() {
            return where;
        }

        boolean isGoing() {
            return outcome == GOING;
        }

        boolean isRight() {
            return right == sung;
        }

        int last() {
            return Cells.at(lines, sung - 1);
        }

        int lineAt(int k) {
            return Cells.at(lines, k);
        }

        int broughtUpBy(int k) {
            return Cells.at(by, k);
        }

        int timesSung(int line) {
            return Cells.at(times, line);
        }
    }

    /** The SINGERS together, by THE LAW: what comes up, and whether it can be sung. */
    private static final class Choir {
        final int[] sure = {FIRST_SURE, FIRST_SURE, FIRST_SURE, FIRST_SURE};
        Law law;
        private int broughtUpBy;

        Choir(Law first) {
            law = first;
        }

        void start(Singing singing, Song song, int line) {
            singing.clear(song);
            if (song.canBeSung(line)) singing.add(line, NOT);
            else singing.comeOut(STICKS, line);
        }

        /** With 60 LINES sung it is ROUND, whatever would come up: no further LINE is looked at. */
        void goOn(Singing singing) {
            if (!singing.isGoing()) return;
            if (singing.size() >= SUNG_MOST) singing.comeOut(ROUND, singing.last());
            else goOnTo(singing, comesUp(singing));
        }

        private void goOnTo(Singing singing, int line) {
            if (line < 0) singing.comeOut(ENDS, singing.last());
            else if (!singing.song().canBeSung(line)) singing.comeOut(STICKS, line);
            else singing.add(line, broughtUpBy);
        }

        void goThrough(Singing singing, Song song, int line) {
            start(singing, song, line);
            for (int i = 0; i < SUNG_MOST && singing.isGoing(); i++) goOn(singing);
        }

        int rightFrom(Singing singing, Song song, int line) {
            start(singing, song, line);
            for (int i = 0; i < LINES && singing.isGoing() && singing.isRight(); i++) goOn(singing);
            return singing.right();
        }

        private int comesUp(Singing singing) {
            Song song = singing.song();
            int last = singing.last(), most = 0, found = NOT;
            for (int line = 0; line < song.size(); line++) {
                int minds = line == last ? 0 : song.minds(line);
                if (minds == 0) continue;
                int likeness = song.likeness(last, line), times = singing.timesSung(line);
                for (int singer = 0; singer < sure.length; singer++) {
                    if ((minds >> singer & 1) == 0) continue;
                    int given = law.gives(likeness, sure[singer], times);
                    if (given > most) {
                        most = given;
                        found = line;
                        broughtUpBy = singer;
                    }
                }
            }
            return found;
        }
    }

    /** The singing in deed and what LED tells of all of them. */
    private static final class Deed {
        final Singing singing;
        int singings;
        int linesSung;
        int sticks;
        int longest;

        Deed(Song first) {
            singing = new Singing(first);
        }

        boolean isOn() {
            return singing.isGoing();
        }

        void tellBegun() {
            singings++;
            tellGoneOn();
        }

        void tellGoneOn() {
            if (singing.outcome() == STICKS) sticks++;
            if (!isOn()) return;
            linesSung++;
            longest = Math.max(longest, singing.size());
        }

        void copyFrom(Deed other) {
            singing.copyFrom(other.singing);
            singings = other.singings;
            linesSung = other.linesSung;
            sticks = other.sticks;
            longest = other.longest;
        }
    }

    /** CHANGES in their order; those from undoable() on have been undone. */
    private static final class Changes {
        private static final int KEPT_MOST = 40;

        private final int[] numbers = new int[KEPT_MOST];
        private final int[] whats = new int[KEPT_MOST];
        private final int[] befores = new int[KEPT_MOST];
        private final int[] afters = new int[KEPT_MOST];
        private int done;
        private int kept;

        void add(int number, int what, int before, int after) {
            if (done >= KEPT_MOST) forgetFirst();
            Cells.set(numbers, done, number);
            Cells.set(whats, done, what);
            Cells.set(befores, done, before);
            Cells.set(afters, done, after);
            done++;
            kept = done;
        }

        private void forgetFirst() {
            System.arraycopy(numbers, 1, numbers, 0, KEPT_MOST - 1);
            System.arraycopy(whats, 1, whats, 0, KEPT_MOST - 1);
            System.arraycopy(befores, 1, befores, 0, KEPT_MOST - 1);
            System.arraycopy(afters, 1, afters, 0, KEPT_MOST - 1);
            done = KEPT_MOST - 1;
        }

        int undoable() {
            return done;
        }

        int redoable() {
            return kept - done;
        }

        /** The change to be undone. */
        int stepBack() {
            if (done > 0) done--;
            return done;
        }

        /** The change to be done again. */
        int stepAhead() {
            if (done < kept) done++;
            return done - 1;
        }

        int number(int i) {
            return Cells.at(numbers, i);
        }

        int what(int i) {
            return Cells.at(whats, i);
        }

        int before(int i) {
            return Cells.at(befores, i);
        }

        int after(int i) {
            return Cells.at(afters, i);
        }
    }

    /** BODIES and their ACTS. The number of a body of acts is what THE TRACE keeps. */
    private static final class Acts {
        private static final int KINDS = 8, ACTS = 4, BODIES_MOST = 50, TRACE_MOST = 24;
        /** No ACT of the document goes half as deep. */
        private static final int DEEPEST = 40;
        private static final int STARTS = 0, HUMS = 1, SAYS = 2, TELLS = 3;

        private static final int[] ABOVE = {-1, 0, 0, 2, 1, 3, 0, 6};
        /** By KINDS, and in each by ACTS: the body of its own; 0: none. */
        private static final int[] OWN_BODY = {
            1, 10, 11, 2,
            20, 0, 0, 0,
            0, 30, 0, 0,
            0, 41, 40, 0,
            0, 0, 0, 50,
            0, 0, 60, 61,
            70, 0, 0, 0,
            81, 80, 0, 0};

        private final int[] kinds = new int[BODIES_MOST];
        private final int[] trace = new int[TRACE_MOST];
        private int size;
        private int ran;
        private int acting;

        static boolean isKind(int kind) {
            return isOf(kind, KINDS);
        }

        static boolean isUnder(int kind, int above) {
            int k = kind;
            for (int i = 0; i < KINDS && k >= 0; i++) {
                if (k == above) return true;
                k = nextAbove(k);
            }
            return false;
        }

        private static int nextAbove(int kind) {
            return isOf(kind, ABOVE.length) ? ABOVE[kind] : -1;
        }

        boolean isFull() {
            return size >= BODIES_MOST;
        }

        int addBody(int kind) {
            Cells.set(kinds, size, kind);
            size++;
            return size - 1;
        }

        boolean isBody(int body) {
            return isOf(body, size);
        }

        int kindOf(int body) {
            return Cells.at(kinds, body);
        }

        int bodies() {
            return size;
        }

        int ran() {
            return ran;
        }

        int traced(int i) {
            return isOf(i, Math.min(ran, TRACE_MOST)) ? Cells.at(trace, i) : BAD;
        }

        int perform(int body, int act, int x) {
            ran = 0;
            if (!isBody(body) || !isOf(act, ACTS)) return 0;
            acting = body;
            return run(act, x, 0);
        }

        private int run(int act, int x, int depth) {
            return runFrom(kindOf(acting), act, x, depth);
        }

        private int runFrom(int kind, int act, int x, int depth) {
            if (depth >= DEEPEST) return 0;
            int k = kind;
            for (int i = 0; i < KINDS && ownBody(k, act) == 0; i++) k = nextAbove(k);
            int body = ownBody(k, act);
            Cells.set(trace, ran, body);
            ran++;
            return worked(body, nextAbove(k), x, depth + 1);
        }

        private static int ownBody(int kind, int act) {
            return Cells.at(OWN_BODY, kind * ACTS + act);
        }

        private int worked(int body, int above, int x, int depth) {
            switch (body) {
                case 1: return x + acting;
                case 2: return run(HUMS, x, depth) - run(SAYS, 1, depth);
                case 10: return run(STARTS, x, depth) * 2;
                case 11: return x ^ acting;
                case 20: return runFrom(above, STARTS, x, depth) + 3;
                case 30: return -runFrom(above, HUMS, x, depth);
                case 40: return runFrom(above, SAYS, x, depth) * 3;
                case 41: return runFrom(above, HUMS, x + 1, depth);
                case 50: return runFrom(above, TELLS, x, depth) ^ 5;
                case 60: return runFrom(above, SAYS, x, depth) - run(STARTS, 2, depth);
                case 61: return runFrom(above, TELLS, x, depth) + 1;
                case 70: return runFrom(above, STARTS, x, depth) * 2;
                case 80: return runFrom(above, HUMS, x, depth) + run(SAYS, 2, depth);
                case 81: return runFrom(above, STARTS, x, depth) - 1;
                default: return 0;
            }
        }
    }

    /** A SHELF: nothing, a BODY, or a ROW of any sort, whose elements have room in longs. */
    private static final class Shelf {
        private static final int NOTHING = 0, A_BODY = 1, A_ROW = 2;

        private final long[] cells = new long[ROW_MOST];
        private int holds = NOTHING;
        private int body;
        private int sort;
        private int length;

        void holdNothing() {
            holds = NOTHING;
        }

        void holdBody(int number) {
            holds = A_BODY;
            body = number;
        }

        void holdRow(int ofSort, int n) {
            holds = A_ROW;
            sort = ofSort;
            length = Math.min(n, cells.length);
            Arrays.fill(cells, 0L);
        }

        boolean isEmpty() {
            return holds == NOTHING;
        }

        boolean isRow() {
            return holds == A_ROW;
        }

        boolean isRowOfBytes() {
            return isRow() && sort == BYTES;
        }

        boolean isRowLike(Shelf other) {
            return isRow() && other.isRow() && sort == other.sort;
        }

        int refusalOfRow() {
            if (isEmpty()) return NOTHING_THERE;
            return isRow() ? 0 : OTHER_KIND;
        }

        int refusalOfBytes() {
            if (isEmpty()) return NOTHING_THERE;
            return isRowOfBytes() ? 0 : OTHER_KIND;
        }

        int bodyHeld() {
            return body;
        }

        int length() {
            return length;
        }

        boolean isPlace(int i) {
            return i >= 0 && i < length;
        }

        /** Counted from the end, since i + n may wrap. */
        boolean hasStretch(int i, int n) {
            return i >= 0 && n >= 0 && n <= length && i <= length - n;
        }

        long cell(int i) {
            return i >= 0 && i < cells.length ? cells[i] : 0;
        }

        int small(int i) {
            return (int) cell(i);
        }

        void become(int i, long v) {
            if (i >= 0 && i < cells.length) cells[i] = lowestOf(v);
        }

        private long lowestOf(long v) {
            switch (sort) {
                case BYTES: return (byte) v;
                case 1: return (short) v;
                case 2: return (int) v;
                case BOOLEANS: return v != 0 ? 1 : 0;
                default: return v;
            }
        }

        void copyTo(int i, Shelf target, int j, int n) {
            if (hasStretch(i, n) && target.hasStretch(j, n)) {
                System.arraycopy(cells, i, target.cells, j, n);
            }
        }
    }
}
