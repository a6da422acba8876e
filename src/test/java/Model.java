import java.math.BigInteger;
import java.util.ArrayList;
import java.util.Arrays;
import java.util.Comparator;
import java.util.List;
import java.util.TreeMap;
import java.util.regex.Matcher;
import java.util.regex.Pattern;

/**
 * The document said a second time, slowly and in another manner (days gone through one by one on copies, ways
 * and marriages listed and sorted), so that the class can be held against it.
 */
public final class Model {

    // ---- kinds, as classes under one another

    static class PlainFlitch {
        int smell(int s, int f, int d) {
            return s - 2 * f < 0 ? 0 : s - 2 * f;
        }
    }

    static class Smoked extends PlainFlitch {
        @Override int smell(int s, int f, int d) {
            int plain = super.smell(s, f, d);
            return plain >= 1 ? plain + 2 : plain;
        }
    }

    static class Drip extends PlainFlitch {
        @Override int smell(int s, int f, int d) {
            return super.smell(s, f, d) + (d % 7 == 0 ? 5 : 0);
        }
    }

    static class Frying extends Smoked {
        @Override int smell(int s, int f, int d) {
            return 2 * super.smell(s, f, d);
        }
    }

    static class Old extends PlainFlitch {
        @Override int smell(int s, int f, int d) {
            int plain = super.smell(s, f, d);
            return plain / 2 + plain % 2;
        }
    }

    static class Sung extends Drip {
        @Override int smell(int s, int f, int d) {
            int less = super.smell(s, f, d) - f;
            return less < 1 ? 1 : less;
        }
    }

    static class PlainFamily {
        int takes(int x, int d) {
            return x / 2;
        }
    }

    static class Grave extends PlainFamily {
        @Override int takes(int x, int d) {
            int plain = super.takes(x, d);
            return plain > 0 ? plain - 1 : 0;
        }
    }

    static class Child extends PlainFamily {
        @Override int takes(int x, int d) {
            return super.takes(x, d) + (x >= 1 ? 2 : 0);
        }
    }

    static class Methodist extends Grave {
        @Override int takes(int x, int d) {
            return d % 13 == 0 ? 6 : super.takes(x, d);
        }
    }

    static class Heir extends PlainFamily {
        @Override int takes(int x, int d) {
            return super.takes(x, d) + (d >= 20 ? 1 : 0);
        }
    }

    static class Singer extends Child {
        @Override int takes(int x, int d) {
            int twice = 2 * super.takes(x, d);
            return twice > 9 ? 9 : twice;
        }
    }

    static final PlainFlitch[] FLITCHES = {
        new PlainFlitch(), new Smoked(), new Drip(), new Frying(), new Old(), new Sung()};
    static final PlainFamily[] FAMILIES = {
        new PlainFamily(), new Grave(), new Child(), new Methodist(), new Heir(), new Singer()};

    // ---- what there is

    static final class State {
        List<int[]> flitches = new ArrayList<>();
        List<int[]> families = new ArrayList<>();
        List<int[]> seen = new ArrayList<>();
        List<int[]> notes = new ArrayList<>();
        List<int[]> marks = new ArrayList<>();
        List<State> past = new ArrayList<>();
        int day;

        static List<int[]> deep(List<int[]> rows) {
            List<int[]> copy = new ArrayList<>();
            for (int[] row : rows) {
                copy.add(row.clone());
            }
            return copy;
        }

        State copy() {
            State s = new State();
            s.flitches = deep(flitches);
            s.families = deep(families);
            s.seen = deep(seen);
            s.notes = deep(notes);
            s.marks = deep(marks);
            s.past = new ArrayList<>(past);
            s.day = day;
            return s;
        }

        int smell(int c) {
            int sum = 0;
            for (int[] f : flitches) {
                if (f[3] == 1) {
                    int far = Math.abs(f[1] / 5 - c / 5) + Math.abs(f[1] % 5 - c % 5);
                    sum += FLITCHES[f[0]].smell(f[2], far, day);
                }
            }
            return sum;
        }

        int takes(int[] family) {
            return family[4] == 1 ? 0 : FAMILIES[family[0]].takes(smell(family[2]), day);
        }

        void oneDay() {
            for (int[] f : families) {
                if (f[4] == 0) {
                    f[3] -= takes(f);
                    if (f[3] < 1) {
                        f[3] = 0;
                        f[4] = 1;
                    }
                }
            }
            day++;
        }

        State behind(int m) {
            State s = copy();
            for (int t = 0; t < m; t++) {
                s.oneDay();
            }
            return s;
        }

        int lapsed() {
            int n = 0;
            for (int[] f : families) {
                n += f[4];
            }
            return n;
        }

        int right() {
            boolean[] holds = new boolean[2];
            for (int[] f : families) {
                if (f[4] == 0) {
                    holds[f[1]] = true;
                }
            }
            return holds[0] == holds[1] ? -1 : holds[0] ? 0 : 1;
        }
    }

    private State now = new State();
    private final State[] images = new State[2];
    private final StringBuilder text = new StringBuilder();
    private BigInteger above = BigInteger.ZERO;
    private BigInteger below = BigInteger.ONE;
    private final int[] refused = new int[3];

    private int bad() {
        refused[0]++;
        return -2;
    }

    private int no() {
        refused[1]++;
        return -3;
    }

    private int full() {
        refused[2]++;
        return -4;
    }

    private boolean out(int v, int low, int high) {
        return v < low || v > high;
    }

    private boolean noFamily(int i) {
        return out(i, 0, now.families.size() - 1);
    }

    private boolean noFlitch(int k) {
        return out(k, 0, now.flitches.size() - 1);
    }

    private void remember() {
        State s = now.copy();
        s.past = null;
        now.past.add(s);
        if (now.past.size() > 8) {
            now.past.remove(0);
        }
    }

    // ---- the face

    public int parish() {
        int n = now.families.size();
        now = new State();
        return n;
    }

    public int flitch(int kind, int c, int strength) {
        if (out(kind, 0, 5) || out(c, 0, 24) || out(strength, 1, 20)) {
            return bad();
        }
        if (now.flitches.size() == 3) {
            return full();
        }
        now.flitches.add(new int[] {kind, c, strength, 1});
        now.past.clear();
        return now.flitches.size() - 1;
    }

    public int family(int kind, int side, int c, int will) {
        if (out(kind, 0, 5) || out(side, 0, 1) || out(c, 0, 24) || out(will, 1, 99)) {
            return bad();
        }
        if (now.families.size() == 7) {
            return full();
        }
        now.families.add(new int[] {kind, side, c, will, 0});
        now.past.clear();
        return now.families.size() - 1;
    }

    public int type(int c) {
        if (out(c, 0, 127)) {
            return bad();
        }
        if (text.length() == 150) {
            return full();
        }
        text.append((char) c);
        return text.length();
    }

    public int clear() {
        int n = text.length();
        text.setLength(0);
        return n;
    }

    private static final Pattern TOKEN = Pattern.compile(" *(?:([a-z]+)|([0-9]+)|(;))");

    /** The places and words of the tokens; the last one is the end, or a byte that begins none. */
    private static void split(String s, List<String> words, List<Integer> places) {
        Matcher m = TOKEN.matcher(s);
        int at = 0;
        while (m.find(at) && m.start() == at) {
            int group = m.group(1) != null ? 1 : m.group(2) != null ? 2 : 3;
            words.add(m.group(group));
            places.add(m.start(group));
            at = m.end();
        }
        while (at < s.length() && s.charAt(at) == ' ') {
            at++;
        }
        words.add(at == s.length() ? "" : "?");
        places.add(at);
    }

    private static boolean number(String word, int low, int high) {
        return word.matches("[0-9]{1,2}") && Integer.parseInt(word) >= low && Integer.parseInt(word) <= high;
    }

    public int read() {
        List<String> words = new ArrayList<>();
        List<Integer> places = new ArrayList<>();
        split(text.toString(), words, places);
        State s = new State();
        int at = 0;
        int items = 0;
        while (items == 0 || !words.get(at).isEmpty()) {
            String word = words.get(at);
            int[][] wants;
            if (items == 0 && word.equals("parish")) {
                wants = new int[][] {};
            } else if (items > 0 && word.equals("flitch") && s.flitches.size() < 3) {
                wants = new int[][] {{0, 5}, {0, 24}, {1, 20}};
            } else if (items > 0 && word.equals("family") && s.families.size() < 7) {
                wants = new int[][] {{0, 5}, {0, 1}, {0, 24}, {1, 99}};
            } else if (items > 0 && word.equals("out")) {
                wants = new int[][] {{0, s.flitches.size() - 1}};
            } else if (items > 0 && word.equals("days")) {
                wants = new int[][] {{1, 99}};
            } else {
                return -10 - places.get(at);
            }
            int[] got = new int[wants.length];
            for (int w = 0; w < wants.length; w++) {
                at++;
                if (!number(words.get(at), wants[w][0], wants[w][1])) {
                    return -10 - places.get(at);
                }
                got[w] = Integer.parseInt(words.get(at));
            }
            at++;
            if (!words.get(at).equals(";")) {
                return -10 - places.get(at);
            }
            at++;
            items++;
            if (word.equals("flitch")) {
                s.flitches.add(new int[] {got[0], got[1], got[2], 1});
            } else if (word.equals("family")) {
                s.families.add(new int[] {got[0], got[1], got[2], got[3], 0});
            } else if (word.equals("out")) {
                s.flitches.get(got[0])[3] ^= 1;
            } else if (word.equals("days")) {
                for (int t = 0; t < got[0]; t++) {
                    s.oneDay();
                }
            }
        }
        now = s;
        return items;
    }

    public int days(int n) {
        if (out(n, 1, 60)) {
            return bad();
        }
        remember();
        for (int t = 0; t < n; t++) {
            if (now.day != 9999) {
                now.oneDay();
            }
        }
        return now.lapsed();
    }

    public int goes(int i, int c) {
        if (noFamily(i) || out(c, 0, 24)) {
            return bad();
        }
        int was = now.families.get(i)[2];
        if (was == c) {
            return no();
        }
        remember();
        now.families.get(i)[2] = c;
        return was;
    }

    public int turnip(int i) {
        if (noFamily(i)) {
            return bad();
        }
        int[] f = now.families.get(i);
        if (f[4] == 1) {
            return no();
        }
        remember();
        f[3] += 3;
        if (f[3] > 99) {
            f[3] = 99;
        }
        return f[3];
    }

    public int outs(int k) {
        if (noFlitch(k)) {
            return bad();
        }
        remember();
        int[] f = now.flitches.get(k);
        f[3] = 1 - f[3];
        return f[3];
    }

    public int undo() {
        if (now.past.isEmpty()) {
            return no();
        }
        State was = now.past.remove(now.past.size() - 1);
        now.day = was.day;
        for (int i = 0; i < now.families.size(); i++) {
            now.families.set(i, was.families.get(i).clone());
        }
        for (int k = 0; k < now.flitches.size(); k++) {
            now.flitches.set(k, was.flitches.get(k).clone());
        }
        return now.day;
    }

    public int of(int i, int what) {
        if (noFamily(i) || out(what, 0, 5)) {
            return bad();
        }
        int[] f = now.families.get(i);
        return what == 5 ? now.takes(f) : f[what];
    }

    public int about(int k, int what) {
        return noFlitch(k) || out(what, 0, 3) ? bad() : now.flitches.get(k)[what];
    }

    public int smell(int c, int m) {
        return out(c, 0, 24) || out(m, 0, 60) ? bad() : now.behind(m).smell(c);
    }

    public int then(int i, int m) {
        return noFamily(i) || out(m, 0, 60) ? bad() : now.behind(m).families.get(i)[3];
    }

    private static int when(State s, int i) {
        for (int m = 0; m <= 60; m++) {
            if (s.families.get(i)[4] == 1) {
                return m;
            }
            s.oneDay();
        }
        return -1;
    }

    public int when(int i) {
        return noFamily(i) ? bad() : when(now.copy(), i);
    }

    public int right() {
        return now.right();
    }

    public int ends(int what) {
        if (out(what, 0, 1)) {
            return bad();
        }
        for (int m = 0; m <= 60; m++) {
            State s = now.behind(m);
            if (s.right() != -1 || s.lapsed() == s.families.size()) {
                return what == 0 ? m : s.right();
            }
        }
        return -1;
    }

    private static int byCells(List<Integer> a, List<Integer> b) {
        for (int at = 0; at < a.size() && at < b.size(); at++) {
            if (!a.get(at).equals(b.get(at))) {
                return a.get(at) - b.get(at);
            }
        }
        return a.size() - b.size();
    }

    private int smells(List<Integer> way) {
        int sum = 0;
        for (int c : way) {
            sum += now.smell(c);
        }
        return sum;
    }

    /** Whole ways are kept and held against one another, from a on. */
    private List<Integer> bestWay(int a, int b) {
        Comparator<List<Integer>> order = Comparator.<List<Integer>>comparingInt(this::smells)
            .thenComparingInt(List::size).thenComparing(Model::byCells);
        TreeMap<Integer, List<Integer>> best = new TreeMap<>();
        best.put(a, new ArrayList<>());
        boolean changed = true;
        while (changed) {
            changed = false;
            for (int c : new ArrayList<>(best.keySet())) {
                for (int n = 0; n < 25; n++) {
                    if (Math.abs(n / 5 - c / 5) + Math.abs(n % 5 - c % 5) == 1) {
                        List<Integer> longer = new ArrayList<>(best.get(c));
                        longer.add(n);
                        if (!best.containsKey(n) || order.compare(longer, best.get(n)) < 0) {
                            best.put(n, longer);
                            changed = true;
                        }
                    }
                }
            }
        }
        return best.get(b);
    }

    public int way(int a, int b, int k) {
        if (out(a, 0, 24) || out(b, 0, 24) || k < -3 || k == -1) {
            bad();
            return -10;
        }
        List<Integer> way = bestWay(a, b);
        if (k == -2) {
            return smells(way);
        }
        if (k == -3) {
            return way.size();
        }
        return k < way.size() ? way.get(k) : -5;
    }

    public int home(int i) {
        if (noFamily(i)) {
            return bad();
        }
        int best = 0;
        int latest = -1;
        for (int c = 0; c < 25; c++) {
            State s = now.copy();
            s.families.get(i)[2] = c;
            int when = when(s, i);
            when = when == -1 ? 1000 : when;
            if (when > latest) {
                latest = when;
                best = c;
            }
        }
        return best;
    }

    public int quiet(int m) {
        if (out(m, 1, 60)) {
            return bad();
        }
        for (int number = 0; number <= 3; number++) {
            for (int bits = 0; bits < 1 << now.flitches.size(); bits++) {
                State s = now.copy();
                for (int k = 0; k < s.flitches.size(); k++) {
                    s.flitches.get(k)[3] = 1 - (bits >> k & 1);
                }
                if (Integer.bitCount(bits) == number && s.behind(m).lapsed() == now.lapsed()) {
                    return bits;
                }
            }
        }
        return -1;
    }

    private void couples(int i, int[] with, List<int[]> all) {
        if (i == with.length) {
            all.add(with.clone());
            return;
        }
        couples(i + 1, with, all);
        for (int j = 0; j < i; j++) {
            int[] a = now.families.get(i);
            int[] b = now.families.get(j);
            if (with[i] == -1 && with[j] == -1 && a[1] != b[1] && Math.abs(a[3] - b[3]) <= 5) {
                with[i] = j;
                with[j] = i;
                couples(i + 1, with, all);
                with[i] = -1;
                with[j] = -1;
            }
        }
    }

    private static int alone(int[] with) {
        int n = 0;
        for (int w : with) {
            n += w == -1 ? 1 : 0;
        }
        return n;
    }

    public int marry(int i) {
        if (i != -1 && noFamily(i)) {
            bad();
            return -10;
        }
        int[] with = new int[now.families.size()];
        Arrays.fill(with, -1);
        List<int[]> all = new ArrayList<>();
        couples(0, with, all);
        all.sort(Comparator.<int[]>comparingInt(Model::alone).thenComparing((a, b) -> Arrays.compare(a, b)));
        int[] first = all.get(0);
        return i == -1 ? (first.length - alone(first)) / 2 : first[i];
    }

    public int seen(int i, int m, int lapsed) {
        if (noFamily(i) || out(m, 0, 60) || out(lapsed, 0, 1)) {
            return bad();
        }
        if (now.seen.size() == 5) {
            return full();
        }
        now.seen.add(new int[] {i, m, lapsed});
        return now.seen.size();
    }

    public int wills(int i, int what) {
        if (noFamily(i) || out(what, 0, 2)) {
            return bad();
        }
        List<Integer> fit = new ArrayList<>();
        for (int w = 1; w <= 99; w++) {
            State s = now.copy();
            s.families.get(i)[3] = w;
            s.families.get(i)[4] = 0;
            int when = when(s, i);
            boolean all = true;
            for (int[] row : now.seen) {
                boolean lapsed = when != -1 && when <= row[1];
                all &= row[0] != i || lapsed == (row[2] == 1);
            }
            if (all) {
                fit.add(w);
            }
        }
        if (what == 0) {
            return fit.size();
        }
        return fit.isEmpty() ? -1 : fit.get(what == 1 ? 0 : fit.size() - 1);
    }

    public int note(int k, int s, int f, int d, int x) {
        if (noFlitch(k) || out(s, 1, 20) || out(f, 0, 8) || out(d, 0, 99) || out(x, 0, 60)) {
            return bad();
        }
        if (now.notes.size() == 6) {
            return full();
        }
        now.notes.add(new int[] {k, s, f, d, x});
        return now.notes.size();
    }

    public int mark(int i, int x, int d, int y) {
        if (noFamily(i) || out(x, 0, 60) || out(d, 0, 99) || out(y, 0, 40)) {
            return bad();
        }
        if (now.marks.size() == 6) {
            return full();
        }
        now.marks.add(new int[] {i, x, d, y});
        return now.marks.size();
    }

    public int forget(int what) {
        if (out(what, 0, 2)) {
            return bad();
        }
        List<int[]> rows = List.of(now.seen, now.notes, now.marks).get(what);
        int n = rows.size();
        rows.clear();
        return n;
    }

    private List<Integer> flitchKinds(int k) {
        List<Integer> fit = new ArrayList<>();
        for (int kind = 0; kind < 6; kind++) {
            int which = kind;
            if (now.notes.stream().allMatch(n -> n[0] != k || FLITCHES[which].smell(n[1], n[2], n[3]) == n[4])) {
                fit.add(kind);
            }
        }
        return fit;
    }

    private List<Integer> familyKinds(int i) {
        List<Integer> fit = new ArrayList<>();
        for (int kind = 0; kind < 6; kind++) {
            int which = kind;
            if (now.marks.stream().allMatch(n -> n[0] != i || FAMILIES[which].takes(n[1], n[2]) == n[3])) {
                fit.add(kind);
            }
        }
        return fit;
    }

    private static int bits(List<Integer> kinds) {
        int bits = 0;
        for (int kind : kinds) {
            bits += 1 << kind;
        }
        return bits;
    }

    private static int most(List<Integer> answers) {
        TreeMap<Integer, Integer> counts = new TreeMap<>();
        for (int a : answers) {
            counts.merge(a, 1, Integer::sum);
        }
        return counts.values().stream().max(Integer::compare).orElse(0);
    }

    public int is(int k) {
        return noFlitch(k) ? bad() : bits(flitchKinds(k));
    }

    public int look(int k) {
        if (noFlitch(k)) {
            return bad();
        }
        List<Integer> kinds = flitchKinds(k);
        int best = -1;
        int fewest = 99;
        for (int where = 0; where <= 81 && !kinds.isEmpty(); where++) {
            if (where % 10 <= 1) {
                List<Integer> answers = new ArrayList<>();
                for (int kind : kinds) {
                    answers.add(FLITCHES[kind].smell(now.flitches.get(k)[2], where / 10, where % 10));
                }
                if (most(answers) < fewest) {
                    fewest = most(answers);
                    best = where;
                }
            }
        }
        return best;
    }

    public int kinds(int i) {
        return noFamily(i) ? bad() : bits(familyKinds(i));
    }

    public int ask(int i) {
        if (noFamily(i)) {
            return bad();
        }
        List<Integer> kinds = familyKinds(i);
        int best = -1;
        int fewest = 99;
        for (int what = 0; what <= 160 && !kinds.isEmpty(); what++) {
            if (what % 100 <= 60) {
                List<Integer> answers = new ArrayList<>();
                for (int kind : kinds) {
                    answers.add(FAMILIES[kind].takes(what % 100, what / 100));
                }
                if (most(answers) < fewest) {
                    fewest = most(answers);
                    best = what;
                }
            }
        }
        return best;
    }

    public int brothers(int a, int b) {
        if (noFamily(a) || noFamily(b)) {
            return bad();
        }
        int[] p = now.families.get(a);
        int[] q = now.families.get(b);
        if (p[1] == q[1] || p[4] == 1 || q[4] == 1) {
            return no();
        }
        int[] ofA = {12, 20, 9, p[3] - now.takes(p)};
        int[] ofB = {12, 9, 20, q[3] - now.takes(q)};
        int bits = 0;
        for (int pair = 0; pair < 4; pair++) {
            if (ofA[pair ^ 1] <= ofA[pair] && ofB[pair ^ 2] <= ofB[pair]) {
                bits += 1 << pair;
            }
        }
        return bits;
    }

    private static BigInteger ways(State s, int i, int n, int c) {
        if (n == 0) {
            return BigInteger.valueOf(s.families.get(i)[4]);
        }
        State smelt = s.behind(1);
        State windy = s.copy();
        for (int[] f : windy.flitches) {
            f[3] = 0;
        }
        windy.oneDay();
        for (int k = 0; k < s.flitches.size(); k++) {
            windy.flitches.get(k)[3] = s.flitches.get(k)[3];
        }
        return ways(smelt, i, n - 1, c).multiply(BigInteger.valueOf(10 - c))
            .add(ways(windy, i, n - 1, c).multiply(BigInteger.valueOf(c)));
    }

    public int mornings(int i, int n, int c) {
        if (noFamily(i) || out(n, 0, 6) || out(c, 0, 10)) {
            return bad();
        }
        BigInteger some = ways(now, i, n, c);
        BigInteger whole = BigInteger.TEN.pow(n);
        above = some.divide(some.gcd(whole));
        below = whole.divide(some.gcd(whole));
        return 1;
    }

    public int years(int seed, int n) {
        if (out(seed, 0, 999999) || out(n, 0, 60)) {
            return bad();
        }
        State s = now.copy();
        long x = seed;
        for (int t = 0; t < n; t++) {
            x = (x * 1103515245L + 12345L) & 0x7fffffffL;
            int who = (int) ((x >> 16) % 7);
            if (who < s.families.size()) {
                s.families.get(who)[2] = (int) ((x >> 20) % 25);
            }
            s.oneDay();
        }
        return s.lapsed();
    }

    public long part(int what) {
        return what == 0 ? above.longValueExact() : what == 1 ? below.longValueExact() : bad();
    }

    public int image(int i) {
        if (out(i, 0, 1)) {
            return bad();
        }
        images[i] = now.copy();
        return 1;
    }

    public int from(int i) {
        if (out(i, 0, 1)) {
            return bad();
        }
        if (images[i] == null) {
            return no();
        }
        now = images[i].copy();
        return 1;
    }

    public int status(int what) {
        if (out(what, 0, 2)) {
            bad();
            return -1;
        }
        return refused[what];
    }

    private int[] counts() {
        int hung = 0;
        for (int[] f : now.flitches) {
            hung += f[3];
        }
        int will = 0;
        for (int[] f : now.families) {
            will += f[3];
        }
        return new int[] {now.families.size(), now.flitches.size(), hung, now.lapsed(), now.day, will,
            now.seen.size(), now.notes.size(), now.marks.size(), now.past.size(), text.length()};
    }

    public int count(int what) {
        return out(what, 0, 10) ? bad() : counts()[what];
    }

    public long digest() {
        List<Long> values = new ArrayList<>();
        for (int v : counts()) {
            values.add((long) v);
        }
        for (List<int[]> rows : List.of(now.flitches, now.families, now.seen, now.notes, now.marks)) {
            for (int[] row : rows) {
                for (int v : row) {
                    values.add((long) v);
                }
            }
        }
        values.add(above.longValueExact());
        values.add(below.longValueExact());
        long h = 1667;
        for (long v : values) {
            h = 31 * h + v;
        }
        return h;
    }
}
