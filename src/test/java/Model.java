import java.util.ArrayDeque;
import java.util.ArrayList;
import java.util.Arrays;
import java.util.Deque;
import java.util.HashMap;
import java.util.List;
import java.util.Map;
import java.util.TreeSet;

/**
 * The document written down a second time, in the plainest words the library has and without the
 * class's ways of being quick: ModelTest compares the two by long runs of calls.
 */
final class Model {
    /** One LINE; a SINGER in the sets HAS its tune, its words. */
    private static final class Line {
        final int[] parts = new int[3];
        final List<TreeSet<Integer>> had = List.of(new TreeSet<>(), new TreeSet<>());
    }

    private static final class Sung {
        final List<Integer> lines = new ArrayList<>();
        final List<Integer> by = new ArrayList<>();
        int how = -1;
        int where;
    }

    private record Change(int number, int what, int before, int after) { }

    private final List<List<Line>> songs = List.of(new ArrayList<>(), new ArrayList<>(), new ArrayList<>());
    private final int[] sure = {5, 5, 5, 5};
    private int forgets = 0;
    private StringBuilder tape = new StringBuilder();
    private String law = "a*8+t+w*2+r-k*3";
    private Sung deed = null;
    private int deedSong = 0;
    private int[] led = new int[4];
    private Map<Integer, Boolean> imageHad = null;
    private List<Integer> imageLines = null;
    private int imageSong = 0;
    private int[] imageLed = null;
    private final Deque<Change> done = new ArrayDeque<>();
    private final Deque<Change> undone = new ArrayDeque<>();
    /** null: nothing; an Integer: a BODY; a long[]: a ROW, of the sort beside it. */
    private final Object[] shelves = new Object[6];
    private final int[] sorts = new int[6];
    private final List<Integer> bodies = new ArrayList<>();
    private List<Integer> trace = List.of();

    // ---- the law, read by a machine with a stack of what is open, worked out on the text itself

    /** The place of the first byte with which no TEXT goes on; the length; -1: it is a TEXT. */
    static int fault(String text) {
        Deque<Character> open = new ArrayDeque<>();
        Deque<Boolean> compared = new ArrayDeque<>();
        compared.push(false);
        boolean operandDue = true;
        boolean asked = false;
        int digits = 0;
        for (int i = 0; i < text.length(); i++) {
            char c = text.charAt(i);
            if (operandDue) {
                if ("(!-".indexOf(c) >= 0) {
                    if (open.size() == 6) return i;
                    open.push(c);
                    if (c == '(') compared.push(false);
                    continue;
                }
                boolean digit = Character.isDigit(c) && c < 128;
                if (!digit && "atwrsk".indexOf(c) < 0) return i;
                digits = digit ? 1 : 4;
                operandDue = false;
                continue;
            }
            if (c >= '0' && c <= '9') {
                if (++digits > 4) return i;
                continue;
            }
            digits = 4;
            while (!open.isEmpty() && open.peek() != '(') open.pop();
            if (c == ')') {
                if (open.isEmpty()) return i;
                open.pop();
                compared.pop();
                continue;
            }
            operandDue = true;
            if ("+-*/%".indexOf(c) >= 0) continue;
            if ("<=>".indexOf(c) >= 0) {
                if (compared.pop()) return i;
                compared.push(true);
                continue;
            }
            if (c != '&' && c != '|' && (!open.isEmpty() || c != '?' && c != ';')) return i;
            if (c == '?' && asked) return i;
            asked = c == '?' || asked && c != ';';
            compared.pop();
            compared.push(false);
        }
        while (!open.isEmpty() && open.peek() != '(') open.pop();
        return operandDue || !open.isEmpty() ? text.length() : -1;
    }

    private String text;
    private int at;
    private Map<Character, Integer> names;

    private final Map<Map<Character, Integer>, Integer> given = new HashMap<>();

    private int lawGives(Map<Character, Integer> of) {
        return given.computeIfAbsent(of, this::lawWorked);
    }

    private int lawWorked(Map<Character, Integer> of) {
        names = of;
        for (String line : law.split(";")) {
            int mark = line.indexOf('?');
            if (mark < 0) return worked(line);
            int first = worked(line.substring(0, mark));
            if (first != 0) return worked(line.substring(mark + 1));
        }
        return 0;
    }

    private int worked(String e) {
        text = e;
        at = 0;
        return ors();
    }

    private boolean next(String signs) {
        return at < text.length() && signs.indexOf(text.charAt(at)) >= 0;
    }

    private int ors() {
        int v = ands();
        while (next("|")) {
            at++;
            int w = ands();
            v = v != 0 || w != 0 ? 1 : 0;
        }
        return v;
    }

    private int ands() {
        int v = comparison();
        while (next("&")) {
            at++;
            int w = comparison();
            v = v != 0 && w != 0 ? 1 : 0;
        }
        return v;
    }

    private int comparison() {
        int v = sum();
        if (!next("<=>")) return v;
        char c = text.charAt(at++);
        int w = sum();
        return (c == '<' ? v < w : c == '=' ? v == w : v > w) ? 1 : 0;
    }

    private int sum() {
        int v = product();
        while (next("+-")) v = text.charAt(at++) == '+' ? v + product() : v - product();
        return v;
    }

    private int product() {
        int v = operand();
        while (next("*/%")) {
            char c = text.charAt(at++);
            int w = operand();
            v = c == '*' ? v * w : w == 0 ? 0 : c == '/' ? v / w : v % w;
        }
        return v;
    }

    private int operand() {
        char c = text.charAt(at++);
        if (c == '!') return operand() == 0 ? 1 : 0;
        if (c == '-') return -operand();
        if (c == '(') {
            int v = ors();
            at++;
            return v;
        }
        if (names.containsKey(c)) return names.get(c);
        int v = c - '0';
        while (next("0123456789")) v = v * 10 + text.charAt(at++) - '0';
        return v;
    }

    // ---- singings

    private boolean canBeSung(int song, int line) {
        if (line >= songs.get(song).size()) return false;
        Line l = songs.get(song).get(line);
        return !l.had.get(0).isEmpty() && !l.had.get(1).isEmpty();
    }

    private Sung begun(int song, int line) {
        Sung s = new Sung();
        if (canBeSung(song, line)) {
            s.lines.add(line);
            s.by.add(-2);
        } else {
            s.how = 1;
            s.where = line;
        }
        return s;
    }

    private void goOn(Sung s, int song) {
        List<Line> lines = songs.get(song);
        int last = s.lines.get(s.lines.size() - 1);
        if (s.lines.size() == 60) {
            s.how = 2;
            s.where = last;
            return;
        }
        Line sung = lines.get(last);
        int found = -1, by = -1, most = 0;
        for (int singer = 0; singer < 4; singer++) {
            for (int i = 0; i < lines.size(); i++) {
                Line line = lines.get(i);
                if (i == last || !line.had.get(0).contains(singer) && !line.had.get(1).contains(singer)) continue;
                int k = 0;
                for (int l : s.lines) if (l == i) k++;
                int v = lawGives(Map.of('a', i == last + 1 ? 1 : 0, 't', line.parts[0] == sung.parts[0] ? 1 : 0,
                        'w', line.parts[1] == sung.parts[1] ? 1 : 0, 'r', line.parts[2] == sung.parts[2] ? 1 : 0,
                        's', sure[singer], 'k', k));
                if (v < 1 || v < most || v == most && i >= found) continue;
                most = v;
                found = i;
                by = singer;
            }
        }
        s.where = found < 0 || canBeSung(song, found) ? last : found;
        if (found < 0) s.how = 0;
        else if (!canBeSung(song, found)) s.how = 1;
        if (s.how >= 0) return;
        s.lines.add(found);
        s.by.add(by);
    }

    private Sung singing(int song, int line) {
        Sung s = begun(song, line);
        while (s.how < 0) goOn(s, song);
        return s;
    }

    private int right(int song, int line) {
        Sung s = begun(song, line);
        while (s.how < 0) {
            int n = s.lines.size();
            goOn(s, song);
            if (s.lines.get(s.lines.size() - 1) != line + n) return n;
        }
        return s.lines.size();
    }

    private boolean isLine(int sl) {
        return sl >= 0 && sl / 100 < 3 && sl % 100 < songs.get(sl / 100).size();
    }

    private static boolean in(int v, int least, int most) {
        return v >= least && v <= most;
    }

    // ---- the face

    long call(String name, long[] a) {
        int p = a.length > 0 ? (int) a[0] : 0, q = a.length > 1 ? (int) a[1] : 0, r = a.length > 2 ? (int) a[2] : 0;
        int s = a.length > 3 ? (int) a[3] : 0;
        switch (name) {
            case "line": return line(p, q);
            case "lines": return lines(p, q, r, s);
            case "has": return has(p, q, r, s);
            case "mend": return mend(p, q, r);
            case "of": return of(p, q);
            case "feed": return !in(p, 0, 255) ? -1 : tape.length() == 120 ? -3 : tape.append((char) p).length();
            case "law": return law();
            case "sing": return sing(p, q);
            case "sung": return sung(p, q, r);
            case "runUp": return runUp(p, q);
            case "oneBit": return oneBit(p, q);
            case "fewest": return !in(p, 0, 2) ? -1 : fewest(p, 2);
            case "evenings": return evenings(p, q);
            case "which": return which(p);
            case "from": return from(p, q);
            case "judge": return judge(p, q);
            case "lacked": return lacked(p, q);
            case "two": return two(p, q);
            case "mixed": return mixed(p, q);
            case "drawn": return drawn(p, q, r, s);
            case "begin": return begin(p);
            case "on": return on();
            case "led": return ledNow(p);
            case "image": return image();
            case "back": return back();
            case "undo": return undo();
            case "redo": return redo();
            case "body": return !in(p, 0, 7) ? -1 : bodies.size() == 50 ? -3 : add(p);
            case "act": return act(p, q, r);
            case "trace": return in(p, 0, Math.min(24, trace.size()) - 1) ? trace.get(p) : -1;
            case "keep": return keep(p, q);
            case "row": return row(p, q, r);
            case "put": return put(p, q, a[2]);
            case "element": return element(p, q);
            case "shift": return shift(p, q, r, s, (int) a[4]);
            case "taken": return taken(p, q);
            case "count": return count(p);
            default: throw new IllegalArgumentException(name);
        }
    }

    private int add(int kind) {
        bodies.add(kind);
        return bodies.size() - 1;
    }

    private int act(int body, int act, int x) {
        boolean may = in(body, 0, bodies.size() - 1) && in(act, 0, 3);
        int given = may ? Kinds.acted(bodies.get(body), body, act, x) : 0;
        trace = may ? Kinds.trace() : List.of();
        return given;
    }

    private int line(int song, int twr) {
        if (!in(song, 0, 2) || !in(twr, 0, 777) || twr % 10 > 7 || twr / 10 % 10 > 7) return -1;
        if (songs.get(song).size() == 12) return -3;
        Line l = new Line();
        l.parts[0] = twr / 100;
        l.parts[1] = twr / 10 % 10;
        l.parts[2] = twr % 10;
        songs.get(song).add(l);
        return songs.get(song).size() - 1;
    }

    private int lines(int song, int shelf, int i, int n) {
        if (!in(song, 0, 2) || !in(shelf, 0, 5) || !in(n, 1, 12)) return -1;
        Object o = shelves[shelf];
        if (o == null) return 0;
        if (!(o instanceof long[]) || sorts[shelf] != 0) return -12;
        int came = 0;
        long[] row = (long[]) o;
        for (long at = i; i >= 0 && came < n && at + 3 <= row.length; at += 3) {
            long t = row[(int) at], w = row[(int) at + 1], r = row[(int) at + 2];
            if (Math.min(t, Math.min(w, r)) < 0 || Math.max(t, Math.max(w, r)) > 7) break;
            if (line(song, (int) (100 * t + 10 * w + r)) < 0) break;
            came++;
        }
        return came;
    }

    private int has(int singer, int sl, int what, int v) {
        if (!in(singer, 0, 3) || !isLine(sl) || !in(what, 0, 1) || !in(v, 0, 1)) return -1;
        TreeSet<Integer> had = songs.get(sl / 100).get(sl % 100).had.get(what);
        return (v == 1 ? !had.add(singer) : had.remove(singer)) ? 1 : 0;
    }

    private int of(int number, int what) {
        if (what == 3) return in(number, 0, 3) ? sure[number] : -1;
        if (what == 4) return number == 0 ? forgets : -1;
        if (what == 5) return in(number, 0, 2) ? songs.get(number).size() : -1;
        if (!isLine(number) || !in(what, 0, 7)) return -1;
        Line l = songs.get(number / 100).get(number % 100);
        if (what < 3) return l.parts[what];
        int bits = 0;
        for (int singer : l.had.get(what - 6)) bits += 1 << singer;
        return bits;
    }

    private void become(int number, int what, int v) {
        if (what == 3) sure[number] = v;
        else if (what == 4) forgets = v;
        else songs.get(number / 100).get(number % 100).parts[what] = v;
    }

    private int mend(int number, int what, int v) {
        if (!in(what, 0, 4) || of(number, what) == -1 || !in(v, 0, new int[] {7, 7, 7, 9, 12}[what])) return -1;
        int was = of(number, what);
        if (was != v) {
            done.addLast(new Change(number, what, was, v));
            if (done.size() > 40) done.removeFirst();
            undone.clear();
            become(number, what, v);
        }
        return was;
    }

    private int law() {
        String read = tape.toString();
        tape = new StringBuilder();
        int fault = fault(read);
        if (fault >= 0) return -100 - fault;
        law = read;
        given.clear();
        return 1;
    }

    private int sing(int sl, int what) {
        if (!isLine(sl) || !in(what, 0, 3)) return -1;
        Sung s = singing(sl / 100, sl % 100);
        return what == 0 ? s.lines.size() : what == 1 ? s.how : what == 2 ? s.where : right(sl / 100, sl % 100);
    }

    private int sung(int sl, int k, int what) {
        if (!isLine(sl) || k < 0 || !in(what, 0, 1)) return -1;
        Sung s = singing(sl / 100, sl % 100);
        return k >= s.lines.size() ? -2 : what == 0 ? s.lines.get(k) : s.by.get(k);
    }

    private int runUp(int song, int what) {
        if (!in(song, 0, 2) || !in(what, 0, 3)) return -1;
        int most = -2, where = -2, bits = 0, nobody = 0;
        for (int line = songs.get(song).size() - 1; line >= 0; line--) {
            int r = right(song, line);
            if (r >= most) {
                most = r;
                where = line;
            }
            for (int i = 0; i < r; i++) bits |= 1 << (line + i);
            if (!canBeSung(song, line)) nobody |= 1 << line;
        }
        return new int[] {where, most, bits, nobody}[what];
    }

    private int oneBit(int song, int what) {
        if (!in(song, 0, 2) || !in(what, 0, 3)) return -1;
        int[] best = {-2, -2, -2, -2};
        for (int singer = 0; singer < 4; singer++) {
            for (int line = 0; line < songs.get(song).size(); line++) {
                for (int which = 0; which < 2; which++) {
                    if (!songs.get(song).get(line).had.get(which).add(singer)) continue;
                    int r = right(song, 0);
                    songs.get(song).get(line).had.get(which).remove(singer);
                    if (r > best[3]) best = new int[] {singer, line, which, r};
                }
            }
        }
        return best[what];
    }

    /** Tries all bits, and pairs of them in any order. */
    private int fewest(int song, int left) {
        if (right(song, 0) == songs.get(song).size()) return 0;
        int best = -2;
        for (int i = 0; left > 0 && i < 8 * songs.get(song).size(); i++) {
            TreeSet<Integer> had = songs.get(song).get(i / 8).had.get(i / 4 % 2);
            if (!had.add(i % 4)) continue;
            int found = fewest(song, left - 1) + 1;
            had.remove(i % 4);
            if (found > 0 && (best < 0 || found < best)) best = found;
        }
        return best;
    }

    private int evenings(int song, int singer) {
        if (!in(song, 0, 2) || !in(singer, 0, 3)) return -1;
        int n = 0;
        for (Line line : songs.get(song)) {
            for (TreeSet<Integer> had : line.had) {
                if (had.isEmpty()) return -2;
                if (!had.contains(singer)) n++;
            }
        }
        return n;
    }

    private int refusal(int shelf) {
        if (shelves[shelf] == null) return -11;
        return shelves[shelf] instanceof long[] && sorts[shelf] == 0 ? 0 : -12;
    }

    private List<Integer> row(int shelf) {
        List<Integer> all = new ArrayList<>();
        for (long v : (long[]) shelves[shelf]) all.add((int) v);
        return all;
    }

    private List<Integer> tunes(int song) {
        List<Integer> all = new ArrayList<>();
        for (Line line : songs.get(song)) all.add(line.parts[0]);
        return all;
    }

    private int which(int shelf) {
        if (!in(shelf, 0, 5)) return -1;
        if (refusal(shelf) < 0) return refusal(shelf);
        int bits = 0;
        for (int song = 0; song < 3; song++) {
            if (java.util.Collections.indexOfSubList(tunes(song), row(shelf)) >= 0) bits |= 1 << song;
        }
        return bits;
    }

    private int from(int shelf, int song) {
        if (!in(shelf, 0, 5) || !in(song, 0, 2)) return -1;
        if (refusal(shelf) < 0) return refusal(shelf);
        int i = java.util.Collections.indexOfSubList(tunes(song), row(shelf));
        return i < 0 ? -2 : i;
    }

    private int judge(int shelf, int song) {
        if (!in(shelf, 0, 5) || !in(song, 0, 2)) return -1;
        if (refusal(shelf) < 0) return refusal(shelf);
        List<Integer> told = row(shelf);
        if (told.isEmpty()) return -2;
        if (!in(told.get(0), 0, songs.get(song).size() - 1)) return 0;
        List<Integer> so = singing(song, told.get(0)).lines;
        for (int i = 0; i < told.size(); i++) if (i >= so.size() || !so.get(i).equals(told.get(i))) return i;
        return -2;
    }

    private long lacked(int shelf, int song) {
        if (!in(shelf, 0, 5) || !in(song, 0, 2) || refusal(shelf) < 0) return Long.MIN_VALUE;
        long bits = 0;
        for (int line = 0; line < songs.get(song).size(); line++) {
            for (int singer = 0; singer < 4; singer++) {
                List<TreeSet<Integer>> had = songs.get(song).get(line).had;
                boolean tune = had.get(0).remove(singer), words = had.get(1).remove(singer);
                if (judge(shelf, song) == -2) bits |= 1L << (4 * line + singer);
                if (tune) had.get(0).add(singer);
                if (words) had.get(1).add(singer);
            }
        }
        return bits;
    }

    private int two(int ab, int what) {
        if (!in(ab, 0, 22) || ab % 10 > 2 || ab / 10 == ab % 10 || !in(what, 0, 2)) return -1;
        List<Integer> one = tunes(ab / 10), other = tunes(ab % 10);
        for (int n = one.size(); n > 0; n--) {
            for (int i = 0; i + n <= one.size(); i++) {
                int j = java.util.Collections.indexOfSubList(other, one.subList(i, i + n));
                if (j >= 0) return new int[] {n, i, j}[what];
            }
        }
        return what == 0 ? 0 : -2;
    }

    private int mixed(int sl, int other) {
        if (!isLine(sl) || !in(other, 0, 2) || other == sl / 100) return -1;
        List<Integer> sung = singing(sl / 100, sl % 100).lines;
        for (int k = 0; k < sung.size(); k++) {
            int tune = songs.get(sl / 100).get(sung.get(k)).parts[0];
            for (Line line : songs.get(other)) if (line.parts[0] == tune && !line.had.get(0).isEmpty()) return k;
        }
        return -2;
    }

    private int drawn(int song, int seed, int n, int what) {
        if (!in(song, 0, 2) || !in(n, 1, 20) || !in(what, 0, 1)) return -1;
        Map<Integer, Boolean> before = had();
        int z = seed, right = 0, left = 0;
        for (int night = 0; night < n; night++) {
            left = 0;
            for (int singer = 0; singer < 4; singer++) {
                for (Line line : songs.get(song)) {
                    for (TreeSet<Integer> had : line.had) {
                        if (!had.contains(singer)) continue;
                        z = z * 1103515245 + 12345;
                        if ((z >>> 8) % 12 < forgets) had.remove(singer);
                        else left++;
                    }
                }
            }
            right += right(song, 0);
        }
        haveAgain(before);
        return what == 0 ? right : left;
    }

    private Map<Integer, Boolean> had() {
        Map<Integer, Boolean> all = new HashMap<>();
        for (int song = 0; song < 3; song++) {
            for (int line = 0; line < songs.get(song).size(); line++) {
                for (int i = 0; i < 8; i++) {
                    all.put(1000 * song + 10 * line + i, songs.get(song).get(line).had.get(i / 4).contains(i % 4));
                }
            }
        }
        return all;
    }

    private void haveAgain(Map<Integer, Boolean> all) {
        for (int song = 0; song < 3; song++) {
            for (int line = 0; line < songs.get(song).size(); line++) {
                for (int i = 0; i < 8; i++) {
                    boolean had = all.getOrDefault(1000 * song + 10 * line + i, false);
                    has(i % 4, 100 * song + line, i / 4, had ? 1 : 0);
                }
            }
        }
    }

    private int begin(int sl) {
        if (!isLine(sl)) return -1;
        if (deed != null) return -5;
        deedSong = sl / 100;
        deed = begun(deedSong, sl % 100);
        led[0]++;
        return told() ? 1 : 0;
    }

    /** Reckons what has just been done in deed; whether a LINE was sung. */
    private boolean told() {
        if (deed.how < 0) {
            led[1]++;
            led[3] = Math.max(led[3], deed.lines.size());
            return true;
        }
        if (deed.how == 1) led[2]++;
        deed = null;
        return false;
    }

    private int on() {
        if (deed == null) return -5;
        Sung s = deed;
        goOn(s, deedSong);
        if (told()) return s.lines.get(s.lines.size() - 1);
        return s.how == 0 ? -2 : s.how == 1 ? -20 - s.where : -6;
    }

    private int ledNow(int what) {
        if (what == 4) return deed == null ? -5 : deed.lines.size();
        return in(what, 0, 3) ? led[what] : -1;
    }

    private int image() {
        imageHad = had();
        imageLines = deed == null ? null : new ArrayList<>(deed.lines);
        imageSong = deedSong;
        imageLed = Arrays.copyOf(led, 4);
        return led[0];
    }

    private int back() {
        if (imageHad == null) return -5;
        haveAgain(imageHad);
        deed = null;
        if (imageLines != null) {
            deed = new Sung();
            deed.lines.addAll(imageLines);
        }
        deedSong = imageSong;
        led = Arrays.copyOf(imageLed, 4);
        return led[0];
    }

    private int undo() {
        if (done.isEmpty()) return -5;
        Change c = done.removeLast();
        undone.addLast(c);
        become(c.number(), c.what(), c.before());
        return done.size();
    }

    private int redo() {
        if (undone.isEmpty()) return -5;
        Change c = undone.removeLast();
        done.addLast(c);
        become(c.number(), c.what(), c.after());
        return undone.size();
    }

    private int keep(int shelf, int body) {
        if (!in(shelf, 0, 5) || !in(body, -1, bodies.size() - 1)) return -1;
        shelves[shelf] = body < 0 ? null : Integer.valueOf(body);
        return 1;
    }

    private int row(int shelf, int sort, int n) {
        if (!in(shelf, 0, 5) || !in(sort, 0, 4) || n > 60) return -1;
        if (n < 0) return -14;
        shelves[shelf] = new long[n];
        sorts[shelf] = sort;
        return 1;
    }

    private int put(int shelf, int i, long v) {
        if (!in(shelf, 0, 5)) return -1;
        if (shelves[shelf] == null) return -11;
        if (!(shelves[shelf] instanceof long[])) return -12;
        long[] row = (long[]) shelves[shelf];
        if (!in(i, 0, row.length - 1)) return -13;
        int bits = new int[] {8, 16, 32, 64, 1}[sorts[shelf]];
        row[i] = sorts[shelf] == 4 ? (v == 0 ? 0 : 1) : v << (64 - bits) >> (64 - bits);
        return 1;
    }

    private long element(int shelf, int i) {
        if (!in(shelf, 0, 5) || !(shelves[shelf] instanceof long[])) return Long.MIN_VALUE;
        long[] row = (long[]) shelves[shelf];
        return in(i, 0, row.length - 1) ? row[i] : Long.MIN_VALUE;
    }

    private int shift(int shelf, int i, int other, int j, int n) {
        if (!in(shelf, 0, 5) || !in(other, 0, 5)) return -1;
        Object a = shelves[shelf], b = shelves[other];
        if (a == null || b == null) return -11;
        if (!(a instanceof long[]) || !(b instanceof long[]) || sorts[shelf] != sorts[other]) return -12;
        long[] from = ((long[]) a).clone(), to = (long[]) b;
        if (n < 0 || i < 0 || j < 0 || (long) i + n > from.length || (long) j + n > to.length) return -13;
        for (int k = 0; k < n; k++) to[j + k] = from[i + k];
        return n;
    }

    private int taken(int shelf, int k) {
        if (!in(shelf, 0, 5) || !in(k, 0, 7)) return -1;
        if (shelves[shelf] == null) return -11;
        if (!(shelves[shelf] instanceof Integer)) return -12;
        int kind = bodies.get((Integer) shelves[shelf]);
        String[] chains = {"0", "10", "20", "320", "410", "5320", "60", "760"};
        return chains[kind].indexOf('0' + k) >= 0 ? kind : -12;
    }

    private int count(int what) {
        int lines = 0, bits = 0;
        for (List<Line> song : songs) {
            lines += song.size();
            for (Line line : song) bits += line.had.get(0).size() + line.had.get(1).size();
        }
        switch (what) {
            case 0: return lines;
            case 1: return bits;
            case 2: return tape.length();
            case 3: return done.size();
            case 4: return bodies.size();
            case 5: return trace.size();
            default: return -1;
        }
    }
}
