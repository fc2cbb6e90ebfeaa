import java.util.ArrayDeque;
import java.util.ArrayList;
import java.util.Arrays;
import java.util.HashMap;
import java.util.HashSet;
import java.util.List;
import java.util.Map;
import java.util.Set;
import java.util.TreeMap;
import java.util.TreeSet;

/**
 * The document once more, in another way than the program's: objects, maps and Java's own conversions, with no thought
 * of room or speed. Random runs compare the program with it.
 */
final class Model {
    static final int UNKNOWN = -101, OUTSIDE = -102, STATE = -103, FULL = -104, CONFLICTS = -105;

    static final class Sort {
        int sort;
        Sort element;
        int number;
        int nesting;
        int bit;
        int faces;
        boolean closed;
        final List<Sort> components = new ArrayList<>();
    }

    static final class Thing {
        int number;
        Sort sort;
        boolean sealed;
        boolean gone;
        final List<Object> values = new ArrayList<>(); // Long (a WORD), Thing or null

        Sort placeSort(int i) {
            return sort.sort == 4 ? sort.components.get(i) : sort.element;
        }

        boolean isLink(int i) {
            return placeSort(i).sort != 0;
        }
    }

    static final class Entry {
        int sortNumber;
        boolean record;
        boolean box;
        boolean sealed;
        List<Boolean> links = new ArrayList<>();
        List<Long> values = new ArrayList<>();

        Entry twin() {
            Entry e = blank();
            e.sealed = sealed;
            e.values = new ArrayList<>(values);
            return e;
        }

        Entry blank() {
            Entry e = new Entry();
            e.sortNumber = sortNumber;
            e.record = record;
            e.box = box;
            e.links = links;
            for (boolean link : links) e.values.add(link ? -1L : 0L);
            return e;
        }

        boolean same(Entry o) {
            return o != null && sealed == o.sealed && values.equals(o.values);
        }
    }

    static final class Shot {
        final TreeMap<Integer, Entry> entries = new TreeMap<>();
        final int[] roots = new int[6];

        boolean dangles() {
            return !dangling().isEmpty();
        }

        List<int[]> dangling() {
            List<int[]> all = new ArrayList<>();
            for (Map.Entry<Integer, Entry> at : entries.entrySet()) {
                Entry e = at.getValue();
                for (int i = 0; i < e.values.size(); i++) {
                    long v = e.values.get(i);
                    if (e.links.get(i) && v != -1 && !entries.containsKey((int) v)) all.add(new int[] {4, at.getKey(), i});
                }
            }
            for (int r = 0; r < 6; r++) {
                if (roots[r] != -1 && !entries.containsKey(roots[r])) all.add(new int[] {4, -1 - r, -1});
            }
            return all;
        }
    }

    final TreeMap<Integer, Sort> sorts = new TreeMap<>();
    final List<Sort> faces = new ArrayList<>();
    final List<Thing> things = new ArrayList<>();
    final Thing[] roots = new Thing[6];
    final List<Shot> shots = new ArrayList<>();
    List<long[]> edits = null;
    List<int[]> conflicts = new ArrayList<>();
    long seen = 0;
    int misfit = -1;
    int latest = 0;
    final int[] findings = new int[9];

    Model() {
        for (int k = 0; k < 8; k++) fixed(k, 0, null);
        fixed(8, 1, null);
        for (int k = 0; k < 8; k++) fixed(10 + k, 2, sorts.get(k));
    }

    private void fixed(int number, int sort, Sort element) {
        Sort s = new Sort();
        s.number = number;
        s.sort = sort;
        s.element = element;
        sorts.put(number, s);
    }

    private int finding(int f) {
        latest = f;
        findings[f]++;
        return -10 - f;
    }

    private int made() {
        return sorts.size() - 17;
    }

    private Sort addSort(int sort) {
        fixed(20 + made(), sort, null);
        return sorts.get(19 + made());
    }

    int face() {
        if (faces.size() == 8 || made() == 40) return FULL;
        Sort s = addSort(3);
        s.bit = 1 << faces.size();
        faces.add(s);
        return s.number;
    }

    int kind(int bits) {
        for (int i = 0; i < 32; i++) if ((bits >> i & 1) == 1 && i >= faces.size()) return OUTSIDE;
        if (made() == 40) return FULL;
        Sort s = addSort(4);
        s.faces = bits;
        return s.number;
    }

    private boolean isKind(int k) {
        return sorts.containsKey(k) && sorts.get(k).sort == 4;
    }

    int component(int k, int c) {
        if (!isKind(k) || !sorts.containsKey(c)) return UNKNOWN;
        Sort s = sorts.get(k);
        if (s.closed) return STATE;
        if (s.components.size() == 6) return FULL;
        s.components.add(sorts.get(c));
        return s.components.size();
    }

    int close(int k) {
        if (!isKind(k)) return UNKNOWN;
        Sort s = sorts.get(k);
        if (s.closed) return STATE;
        s.closed = true;
        return s.components.size();
    }

    int rowOf(int c) {
        if (!sorts.containsKey(c)) return UNKNOWN;
        Sort e = sorts.get(c);
        if (e.nesting == 4) return OUTSIDE;
        for (Sort s : sorts.values()) if (s.sort == 5 && s.element == e) return s.number;
        if (made() == 40) return FULL;
        Sort s = addSort(5);
        s.element = e;
        s.nesting = e.nesting + 1;
        return s.number;
    }

    int about(int c, int what) {
        if (!sorts.containsKey(c)) return UNKNOWN;
        if (what < 0 || what > 10) return OUTSIDE;
        Sort s = sorts.get(c);
        if (what == 0) return s.sort;
        if (what == 1) return s.sort == 5 ? s.element.number : -1;
        if (what == 2) return s.nesting;
        if (what == 3) return s.components.size();
        if (what == 4) return s.faces;
        return what - 5 < s.components.size() ? s.components.get(what - 5).number : -1;
    }

    private boolean isA(Sort a, Sort b) {
        if (a == b) return true;
        if (b.sort == 1) return a.sort != 0;
        if (a.sort == 4 && b.sort == 3) return (a.faces & b.bit) != 0;
        return a.sort == 5 && b.sort == 5 && a.element.sort != 0 && b.element.sort != 0 && isA(a.element, b.element);
    }

    int is(int a, int b) {
        if (!sorts.containsKey(a) || !sorts.containsKey(b)) return UNKNOWN;
        return isA(sorts.get(a), sorts.get(b)) ? 1 : 0;
    }

    private boolean room(int more) {
        return things.size() + more <= 300;
    }

    private Thing born(Sort s, int length) {
        Thing t = new Thing();
        t.number = things.size();
        t.sort = s;
        things.add(t);
        for (int i = 0; i < length; i++) t.values.add(t.isLink(i) ? null : (Object) 0L);
        return t;
    }

    int make(int c, int n) {
        if (!sorts.containsKey(c)) return UNKNOWN;
        Sort s = sorts.get(c);
        if (s.sort != 5 || n > 16) return OUTSIDE;
        if (!room(1)) return FULL;
        return n < 0 ? finding(3) : born(s, n).number;
    }

    int multi(int c, int a, int b) {
        if (!sorts.containsKey(c)) return UNKNOWN;
        Sort s = sorts.get(c);
        if (s.sort != 5 || s.element.sort != 5 || a > 8 || b > 8) return OUTSIDE;
        if (!room(1 + Math.max(0, a))) return FULL;
        if (a < 0 || b < 0) return finding(3);
        Thing t = born(s, a);
        for (int i = 0; i < a; i++) t.values.set(i, born(s.element, b));
        return t.number;
    }

    int record(int k) {
        if (!sorts.containsKey(k)) return UNKNOWN;
        Sort s = sorts.get(k);
        if (s.sort != 4) return OUTSIDE;
        if (!s.closed) return STATE;
        return room(1) ? born(s, s.components.size()).number : FULL;
    }

    private static boolean taken(int k, long word) {
        if (k < 0 || k > 7) return false;
        if (k == 6) return !Float.isNaN(Float.intBitsToFloat((int) word));
        return k != 7 || !Double.isNaN(Double.longBitsToDouble(word));
    }

    private static long told(int k, long w) {
        long[] all = {w & 1, (byte) w, (char) w, (short) w, (int) w, w, (int) w, w};
        return all[k];
    }

    private static boolean shared(int k, long w) {
        return k <= 1 || k <= 5 && w >= -128 && w <= 127;
    }

    private Thing boxed(int k, long word) {
        if (shared(k, word)) {
            for (Thing t : things) {
                if (!t.gone && t.sort.number == 10 + k && t.values.get(0).equals(word)) return t;
            }
        }
        if (!room(1)) return null;
        Thing t = born(sorts.get(10 + k), 1);
        t.values.set(0, word);
        return t;
    }

    int box(int k, long word) {
        if (!taken(k, word)) return OUTSIDE;
        Thing t = boxed(k, told(k, word));
        return t == null ? FULL : t.number;
    }

    private boolean there(int x) {
        return x >= 0 && x < things.size() && !things.get(x).gone;
    }

    private boolean thereOrNone(int x) {
        return x == -1 || there(x);
    }

    int seal(int x) {
        if (!there(x)) return UNKNOWN;
        Thing t = things.get(x);
        if (t.sort.sort != 4) return finding(6);
        if (t.sealed) return finding(7);
        t.sealed = true;
        return 0;
    }

    private static long number(Object value) {
        if (value == null) return -1;
        return value instanceof Thing ? ((Thing) value).number : (Long) value;
    }

    int get(int x, int i) {
        if (!thereOrNone(x)) return UNKNOWN;
        if (x == -1) return finding(1);
        Thing t = things.get(x);
        if (i < 0 || i >= t.values.size()) return finding(2);
        seen = number(t.values.get(i));
        return t.isLink(i) ? 1 : 0;
    }

    /** null: it does not widen. */
    static Long widen(int from, int to, long w) {
        if (from == to) return w;
        String ways = "13 14 15 16 17 24 25 26 27 34 35 36 37 45 46 47 56 57 67";
        if (from > 7 || to > 7 || !ways.contains("" + from + to)) return null;
        if (to <= 5) return w;
        if (from == 6) return Double.doubleToRawLongBits(Float.intBitsToFloat((int) w));
        if (to == 7) return Double.doubleToRawLongBits(from == 5 ? (double) w : (double) (int) w);
        return (long) Float.floatToRawIntBits(from == 5 ? (float) w : (float) (int) w);
    }

    private int writable(int x, int i) {
        if (x == -1) return 1;
        Thing t = things.get(x);
        if (t.sort.sort == 2) return 6;
        if (t.sealed) return 7;
        return i < 0 || i >= t.values.size() ? 2 : 0;
    }

    int put(int x, int i, int k, long word) {
        if (!thereOrNone(x)) return UNKNOWN;
        if (!taken(k, word)) return OUTSIDE;
        int w = writable(x, i);
        if (w != 0) return finding(w);
        Thing t = things.get(x);
        if (t.isLink(i)) return finding(5);
        Long v = widen(k, t.placeSort(i).number, told(k, word));
        if (v == null) return finding(5);
        t.values.set(i, v);
        return 0;
    }

    int set(int x, int i, int y) {
        if (!thereOrNone(x) || !thereOrNone(y)) return UNKNOWN;
        int w = writable(x, i);
        if (w != 0) return finding(w);
        Thing t = things.get(x);
        Thing u = y == -1 ? null : things.get(y);
        if (t.isLink(i)) {
            if (u != null && !isA(u.sort, t.placeSort(i))) return finding(4);
            t.values.set(i, u);
            return 0;
        }
        if (u == null) return finding(1);
        if (u.sort.sort != 2) return finding(5);
        Long v = widen(u.sort.number - 10, t.placeSort(i).number, (Long) u.values.get(0));
        if (v == null) return finding(5);
        t.values.set(i, v);
        return 0;
    }

    int copy(int x, int i, int y, int j, int n) {
        if (!thereOrNone(x) || !thereOrNone(y)) return UNKNOWN;
        if (x == -1 || y == -1) return finding(1);
        Thing t = things.get(x);
        Thing u = things.get(y);
        if (t.sort.sort != 5 || u.sort.sort != 5) return finding(6);
        Sort from = t.sort.element;
        Sort to = u.sort.element;
        if ((from.sort == 0 || to.sort == 0) && from != to) return finding(4);
        if (i < 0 || j < 0 || n < 0) return finding(2);
        if ((long) i + n > t.values.size() || (long) j + n > u.values.size()) return finding(2);
        List<Object> ahead = new ArrayList<>(t.values.subList(i, i + n));
        for (int at = 0; at < n; at++) {
            Object v = ahead.get(at);
            if (v instanceof Thing && !isA(((Thing) v).sort, to)) {
                seen = at;
                return finding(4);
            }
            u.values.set(j + at, v);
        }
        seen = n;
        return 0;
    }

    int length(int x) {
        if (!thereOrNone(x)) return UNKNOWN;
        return x == -1 ? finding(1) : things.get(x).values.size();
    }

    int classOf(int x) {
        if (!thereOrNone(x)) return UNKNOWN;
        return x == -1 ? finding(1) : things.get(x).sort.number;
    }

    int sealed(int x) {
        if (!thereOrNone(x)) return UNKNOWN;
        return x == -1 ? finding(1) : things.get(x).sealed ? 1 : 0;
    }

    int shallow(int x) {
        if (!thereOrNone(x)) return UNKNOWN;
        if (x == -1) return finding(1);
        Thing t = things.get(x);
        if (t.sort.sort != 5) return x;
        if (!room(1)) return FULL;
        Thing u = born(t.sort, t.values.size());
        for (int i = 0; i < t.values.size(); i++) u.values.set(i, t.values.get(i));
        return u.number;
    }

    static List<Thing> reached(List<Thing> from) {
        List<Thing> all = new ArrayList<>();
        ArrayDeque<Thing> waiting = new ArrayDeque<>();
        for (Thing t : from) {
            if (t != null && !all.contains(t)) {
                all.add(t);
                waiting.add(t);
            }
        }
        while (!waiting.isEmpty()) {
            for (Object v : waiting.remove().values) {
                if (v instanceof Thing && !all.contains(v)) {
                    all.add((Thing) v);
                    waiting.add((Thing) v);
                }
            }
        }
        return all;
    }

    int deep(int x) {
        if (!thereOrNone(x)) return UNKNOWN;
        if (x == -1) return finding(1);
        List<Thing> all = reached(List.of(things.get(x)));
        Map<Thing, Thing> twins = new HashMap<>();
        int wanted = 0;
        for (Thing t : all) if (t.sort.sort != 2) wanted++;
        if (!room(wanted)) return FULL;
        for (Thing t : all) twins.put(t, t.sort.sort == 2 ? t : born(t.sort, t.values.size()));
        for (Thing t : all) {
            if (t.sort.sort == 2) continue;
            Thing u = twins.get(t);
            u.sealed = t.sealed;
            for (int i = 0; i < t.values.size(); i++) {
                Object v = t.values.get(i);
                u.values.set(i, v instanceof Thing ? twins.get(v) : v);
            }
        }
        return twins.get(things.get(x)).number;
    }

    /** Two are LIKE, unless some way tells them apart: all pairs on all ways are looked at. */
    private static boolean alike(Thing x, Thing y) {
        Set<List<Integer>> met = new HashSet<>();
        ArrayDeque<Thing[]> waiting = new ArrayDeque<>();
        waiting.add(new Thing[] {x, y});
        while (!waiting.isEmpty()) {
            Thing[] pair = waiting.remove();
            Thing a = pair[0];
            Thing b = pair[1];
            if (a == b || !met.add(List.of(a.number, b.number))) continue;
            if (a.sort != b.sort || a.values.size() != b.values.size() || a.sealed != b.sealed) return false;
            for (int i = 0; i < a.values.size(); i++) {
                Object v = a.values.get(i);
                Object w = b.values.get(i);
                if (v instanceof Thing && w instanceof Thing) waiting.add(new Thing[] {(Thing) v, (Thing) w});
                else if (number(v) != number(w) || v instanceof Thing || w instanceof Thing) return false;
            }
        }
        return true;
    }

    long seen() {
        return seen;
    }

    int like(int x, int y) {
        if (!thereOrNone(x) || !thereOrNone(y)) return UNKNOWN;
        if (x == -1 || y == -1) return finding(1);
        return alike(things.get(x), things.get(y)) ? 1 : 0;
    }

    private static long hashOf(Thing t, int depth) {
        if (depth == 0) return t.sort.number;
        List<Long> all = new ArrayList<>();
        all.add((long) t.sort.number);
        all.add((long) t.values.size());
        for (Object v : t.values) all.add(v instanceof Thing ? hashOf((Thing) v, depth - 1) : number(v));
        long h = 17;
        for (long v : all) h = 31 * h + v;
        return h;
    }

    int hash(int x) {
        if (!thereOrNone(x)) return UNKNOWN;
        if (x == -1) return finding(1);
        seen = hashOf(things.get(x), 3);
        return 0;
    }

    private int leastOf(Thing t) {
        for (Thing u : things) if (!u.gone && alike(u, t)) return u.number;
        return -999;
    }

    int least(int x) {
        if (!thereOrNone(x)) return UNKNOWN;
        return x == -1 ? finding(1) : leastOf(things.get(x));
    }

    int groups() {
        Set<Integer> all = new HashSet<>();
        for (Thing t : things) if (!t.gone) all.add(leastOf(t));
        return all.size();
    }

    int name(int r, int x) {
        if (r < 0 || r > 5 || !thereOrNone(x)) return UNKNOWN;
        int was = (int) number(roots[r]);
        roots[r] = x == -1 ? null : things.get(x);
        return was;
    }

    int root(int r) {
        return r < 0 || r > 5 ? UNKNOWN : (int) number(roots[r]);
    }

    int path(int r, int way) {
        if (r < 0 || r > 5) return UNKNOWN;
        Thing t = roots[r];
        for (int shift = 0; shift < 32 && (way >> shift & 15) != 0; shift += 4) {
            int i = (way >> shift & 15) - 1;
            if (t == null) return finding(1);
            if (i >= t.values.size()) return finding(2);
            if (!t.isLink(i)) return finding(5);
            t = (Thing) t.values.get(i);
        }
        return (int) number(t);
    }

    int sweep() {
        List<Thing> from = new ArrayList<>(Arrays.asList(roots));
        for (Thing t : things) if (!t.gone && t.sort.sort == 4 && !t.sealed) from.add(t);
        List<Thing> all = reached(from);
        int gone = 0;
        for (Thing t : things) {
            if (!t.gone && !all.contains(t)) {
                t.gone = true;
                gone++;
            }
        }
        return gone;
    }

    int photo() {
        if (shots.size() == 12) return FULL;
        Shot shot = new Shot();
        for (Thing t : reached(Arrays.asList(roots))) {
            Entry e = new Entry();
            e.sortNumber = t.sort.number;
            e.record = t.sort.sort == 4;
            e.box = t.sort.sort == 2;
            e.sealed = t.sealed;
            for (int i = 0; i < t.values.size(); i++) {
                e.links.add(t.isLink(i));
                e.values.add(number(t.values.get(i)));
            }
            shot.entries.put(t.number, e);
        }
        for (int r = 0; r < 6; r++) shot.roots[r] = (int) number(roots[r]);
        shots.add(shot);
        return shots.size() - 1;
    }

    private boolean shot(int p) {
        return p >= 0 && p < shots.size();
    }

    int picture(int p, int what) {
        if (!shot(p)) return UNKNOWN;
        if (what < 0 || what > 7) return OUTSIDE;
        Shot s = shots.get(p);
        if (what == 0) return s.entries.size();
        if (what == 1) return (int) s.entries.values().stream().filter(e -> e.record).count();
        return s.roots[what - 2];
    }

    int entry(int p, int x, int what) {
        if (!shot(p)) return UNKNOWN;
        if (what < 0) return OUTSIDE;
        Entry e = shots.get(p).entries.get(x);
        if (e == null) return -1;
        if (what == 0) return e.sortNumber;
        if (what == 1) return e.values.size();
        if (what == 2) return e.sealed ? 1 : 0;
        if (what - 3 >= e.values.size()) return finding(2);
        seen = e.values.get(what - 3);
        return e.links.get(what - 3) ? 1 : 0;
    }

    int differ(int p, int q) {
        if (!shot(p) || !shot(q)) return UNKNOWN;
        Shot a = shots.get(p);
        Shot b = shots.get(q);
        List<List<long[]>> by = new ArrayList<>();
        for (int sort = 0; sort < 5; sort++) by.add(new ArrayList<>());
        for (Map.Entry<Integer, Entry> at : b.entries.entrySet()) {
            int n = at.getKey();
            Entry to = at.getValue();
            Entry from = a.entries.get(n);
            if (from == null) {
                by.get(0).add(new long[] {0, n, to.sortNumber, to.values.size(), 0});
                from = to.blank();
            }
            for (int i = 0; i < to.values.size(); i++) {
                long was = from.values.get(i);
                long now = to.values.get(i);
                if (was != now) by.get(1).add(new long[] {1, n, i, was, now});
            }
            if (from.sealed != to.sealed) by.get(2).add(new long[] {2, n, 0, from.sealed ? 1 : 0, to.sealed ? 1 : 0});
        }
        for (int r = 0; r < 6; r++) {
            if (a.roots[r] != b.roots[r]) by.get(3).add(new long[] {3, r, 0, a.roots[r], b.roots[r]});
        }
        for (int n : a.entries.keySet()) if (!b.entries.containsKey(n)) by.get(4).add(new long[] {4, n, 0, 0, 0});
        List<long[]> all = new ArrayList<>();
        for (List<long[]> part : by) all.addAll(part);
        if (all.size() > 900) return FULL;
        edits = all;
        return all.size();
    }

    long edit(int k, int what) {
        if (edits == null || k < 0 || k >= edits.size() || what < 0 || what > 4) return 0;
        return edits.get(k)[what];
    }

    private Entry shapeOf(int n) {
        for (Shot s : shots) if (s.entries.containsKey(n)) return s.entries.get(n);
        throw new IllegalStateException("an EDIT of a number in no PICTURE");
    }

    int lay(int p) {
        if (!shot(p)) return UNKNOWN;
        if (edits == null) return STATE;
        if (shots.size() == 12) return FULL;
        Shot s = new Shot();
        shots.get(p).entries.forEach((n, e) -> s.entries.put(n, e.twin()));
        System.arraycopy(shots.get(p).roots, 0, s.roots, 0, 6);
        for (int k = 0; k < edits.size(); k++) {
            if (!done(edits.get(k), s)) {
                misfit = k;
                return finding(8);
            }
        }
        if (s.dangles()) {
            misfit = edits.size();
            return finding(8);
        }
        shots.add(s);
        return shots.size() - 1;
    }

    private boolean done(long[] edit, Shot s) {
        int n = (int) edit[1];
        Entry e = s.entries.get(n);
        if (edit[0] == 0) {
            if (e != null) return false;
            s.entries.put(n, shapeOf(n).blank());
        } else if (edit[0] == 1) {
            if (e == null || e.values.get((int) edit[2]) != edit[3]) return false;
            e.values.set((int) edit[2], edit[4]);
        } else if (edit[0] == 2) {
            if (e == null || e.sealed != (edit[3] == 1)) return false;
            e.sealed = edit[4] == 1;
        } else if (edit[0] == 3) {
            if (s.roots[n] != edit[3]) return false;
            s.roots[n] = (int) edit[4];
        } else {
            if (e == null) return false;
            s.entries.remove(n);
        }
        return true;
    }

    int misfit() {
        return misfit;
    }

    private static boolean same(Entry a, Entry b) {
        return a == null ? b == null : a.same(b);
    }

    /** null: a CONFLICT. */
    private static Long third(long b, long p, long q) {
        if (p == b) return q;
        return q == b || q == p ? p : null;
    }

    int merge(int b, int p, int q) {
        if (!shot(b) || !shot(p) || !shot(q)) return UNKNOWN;
        if (shots.size() == 12) return FULL;
        Shot sb = shots.get(b);
        Shot sp = shots.get(p);
        Shot sq = shots.get(q);
        Shot s = new Shot();
        List<int[]> all = new ArrayList<>();
        Set<Integer> numbers = new TreeSet<>(sb.entries.keySet());
        numbers.addAll(sp.entries.keySet());
        numbers.addAll(sq.entries.keySet());
        for (int n : numbers) {
            Entry eb = sb.entries.get(n);
            Entry ep = sp.entries.get(n);
            Entry eq = sq.entries.get(n);
            if (same(ep, eb)) {
                if (eq != null) s.entries.put(n, eq.twin());
            } else if (same(eq, eb) || same(eq, ep)) {
                if (ep != null) s.entries.put(n, ep.twin());
            } else if (ep != null && eq != null) {
                s.entries.put(n, parts(n, eb == null ? ep.blank() : eb, ep, eq, all));
            } else {
                all.add(new int[] {0, n, -1});
            }
        }
        for (int r = 0; r < 6; r++) {
            Long v = third(sb.roots[r], sp.roots[r], sq.roots[r]);
            if (v == null) all.add(new int[] {3, r, -1});
            else s.roots[r] = (int) (long) v;
        }
        if (all.isEmpty()) all.addAll(s.dangling());
        conflicts = all;
        if (!all.isEmpty()) return CONFLICTS;
        shots.add(s);
        return shots.size() - 1;
    }

    private static Entry parts(int n, Entry b, Entry p, Entry q, List<int[]> all) {
        Entry e = p.blank();
        Long sealed = third(b.sealed ? 1 : 0, p.sealed ? 1 : 0, q.sealed ? 1 : 0);
        if (sealed == null) all.add(new int[] {1, n, -1});
        else e.sealed = sealed == 1;
        for (int i = 0; i < e.values.size(); i++) {
            Long v = third(b.values.get(i), p.values.get(i), q.values.get(i));
            if (v == null) all.add(new int[] {2, n, i});
            else e.values.set(i, v);
        }
        return e;
    }

    int conflict(int k, int what) {
        if (k == -1) return conflicts.size();
        if (k < 0 || k >= Math.min(60, conflicts.size()) || what < 0 || what > 2) return -1;
        return conflicts.get(k)[what];
    }

    int restore(int p) {
        if (!shot(p)) return UNKNOWN;
        Shot s = shots.get(p);
        int before = things.size();
        Map<Integer, Thing> twins = new HashMap<>();
        for (Map.Entry<Integer, Entry> at : s.entries.entrySet()) {
            Entry e = at.getValue();
            Thing t = null;
            if (e.box) t = boxed(e.sortNumber - 10, e.values.get(0));
            else if (room(1)) t = born(sorts.get(e.sortNumber), e.values.size());
            if (t == null) {
                while (things.size() > before) things.remove(things.size() - 1);
                return FULL;
            }
            twins.put(at.getKey(), t);
        }
        for (Map.Entry<Integer, Entry> at : s.entries.entrySet()) {
            Entry e = at.getValue();
            if (e.box) continue;
            Thing t = twins.get(at.getKey());
            t.sealed = e.sealed;
            for (int i = 0; i < e.values.size(); i++) {
                long v = e.values.get(i);
                t.values.set(i, e.links.get(i) ? (Object) twins.get((int) v) : (Object) v);
            }
        }
        for (int r = 0; r < 6; r++) roots[r] = twins.get(s.roots[r]);
        return things.size() - before;
    }

    int finding() {
        return latest;
    }

    int findings(int f) {
        return f < 1 || f > 8 ? OUTSIDE : findings[f];
    }

    int count(int what) {
        if (what == 0) return made();
        if (what == 1) return things.size();
        if (what == 2) return (int) things.stream().filter(t -> !t.gone).count();
        if (what == 3) return shots.size();
        if (what == 4) return edits == null ? 0 : edits.size();
        return what == 5 ? faces.size() : OUTSIDE;
    }

    long digest() {
        List<Long> all = new ArrayList<>();
        for (Thing t : things) {
            if (t.gone) continue;
            all.add((long) t.number);
            all.add((long) t.sort.number);
            all.add(t.sealed ? 1L : 0L);
            for (Object v : t.values) all.add(number(v));
        }
        for (Thing t : roots) all.add(number(t));
        all.add((long) shots.size());
        long h = 29;
        for (long v : all) h = 31 * h + v;
        return h;
    }
}
