import java.math.BigInteger;
import java.util.ArrayList;
import java.util.Arrays;
import java.util.List;
import java.util.TreeMap;
import java.util.regex.Matcher;
import java.util.regex.Pattern;

/**
 * The document once more, written another way than the class (kinds by
 * inheritance, days by copies, casts by trying all), to hold answers against.
 */
final class Model {
    static final long BAD_ARGUMENT = Long.MIN_VALUE;
    static final long BAD_STATE = Long.MIN_VALUE + 1;

    static class Minister {
        int figure;
        int known;
        int mate = 9;

        int shows(int k, int day) { return 3; }
        int bears() { return 20; }
        int forgets() { return 2; }
        int cost() { return 4; }
        int failure() { return figure == 0 ? -15 : figure; }
    }

    static class Honest extends Minister {
        int shows(int k, int day) { return 2 * 3; }
        int bears() { return super.bears() - 5; }
        int forgets() { return 1; }
        int cost() { return 1; }
        int failure() { return -15; }
    }

    static class Tailor extends Minister {
        int shows(int k, int day) { return 1 + (k > figure ? k - figure : figure - k) / 3; }
        int bears() { return 20 + figure; }
        int forgets() { return 3; }
        int cost() { return super.cost() + 2; }
        int failure() { return figure == 0 ? -15 : 100 + figure; }
    }

    static class Widow extends Honest {
        int shows(int k, int day) { return super.shows(k, day) + (day % 2 == 1 ? figure : 0); }
        int forgets() { return 0; }
        int cost() { return super.cost() + figure; }
    }

    static class Dog extends Tailor {
        int shows(int k, int day) { return k == figure ? 0 : super.shows(k, day); }
        int bears() { return 2 * super.bears(); }
        int cost() { return 0; }
    }

    static class Enemy extends Minister {
        int shows(int k, int day) { int s = super.shows(k, day) - k; return s < 1 ? 1 : s; }
        int bears() { return 20 + 2 * figure; }
        int forgets() { return figure; }
        int cost() { return 2 * super.cost(); }
    }

    static class Child extends Honest {
        int shows(int k, int day) { return k < figure ? 9 : super.shows(k, day); }
        int bears() { return super.bears() / 2; }
    }

    static class Sweeper extends Dog {
        int shows(int k, int day) { return 0; }
        int bears() { return 99; }
        int forgets() { return 9; }
        int cost() { return super.cost() + 1; }
        int failure() { return figure == 0 ? -15 : 200 + bears(); }
    }

    static final List<Class<?>> CLASSES = Arrays.asList(Minister.class, Honest.class, Tailor.class,
            Widow.class, Dog.class, Enemy.class, Child.class, Sweeper.class);

    static Minister make(int kind, int figure, int known, int mate) {
        Minister[] fresh = {new Minister(), new Honest(), new Tailor(), new Widow(), new Dog(),
            new Enemy(), new Child(), new Sweeper()};
        Minister m = fresh[kind];
        m.figure = figure;
        m.known = known;
        m.mate = mate;
        return m;
    }

    static int kindOf(Minister m) {
        return CLASSES.indexOf(m.getClass());
    }

    /** A state, never changed in place by a look ahead: after() copies. */
    static final class State {
        final List<Minister> people = new ArrayList<>();
        final int[] costume = {0, 1, 2, 3, 4};
        final TreeMap<Integer, Integer> held = new TreeMap<>();
        int falls;
        int day;
        int events;

        State twin() {
            State s = new State();
            for (Minister m : people) {
                s.people.add(make(kindOf(m), m.figure, m.known, m.mate));
            }
            System.arraycopy(costume, 0, s.costume, 0, 5);
            s.held.putAll(held);
            s.falls = falls;
            s.day = day;
            s.events = events;
            return s;
        }

        int officeOf(int p) {
            for (int f : held.keySet()) {
                if (held.get(f) == p) {
                    return f;
                }
            }
            return -4;
        }

        boolean common(int k) {
            return held.keySet().stream().filter(f -> costume[f] == k).count() >= 2;
        }

        void hold(int f, int p) {
            held.values().removeIf(q -> q == p);
            held.put(f, p);
        }

        State after(int n) {
            State s = twin();
            for (int i = 0; i < n; i++) {
                s.tick();
            }
            return s;
        }

        void tick() {
            day++;
            for (int p = 0; p < people.size(); p++) {
                Minister m = people.get(p);
                int f = officeOf(p);
                if (f < 0) {
                    m.known = Math.max(0, m.known - m.forgets());
                } else {
                    int s = m.shows(costume[f], day);
                    m.known = Math.min(99, m.known + (common(costume[f]) ? s / 2 : s));
                }
            }
            for (int f = 0; f < 5; f++) {
                if (!held.containsKey(f)) {
                    continue;
                }
                Minister m = people.get(held.get(f));
                if (m.known < m.bears()) {
                    continue;
                }
                events++;
                falls = Math.min(999, falls + 1);
                held.remove(f);
                if (m.mate < people.size() && officeOf(m.mate) < 0) {
                    Minister next = people.get(m.mate);
                    if (next.known < next.bears()) {
                        held.put(f, m.mate);
                    }
                }
            }
        }

        int bits() {
            return held.keySet().stream().mapToInt(f -> 1 << f).sum();
        }
    }

    static final class Shelf {
        Minister one;
        int sort;
        int[] row;

        boolean bare() { return one == null && row == null; }

        boolean skipped(int i) {
            int[] least = {Byte.MIN_VALUE, Short.MIN_VALUE, Integer.MIN_VALUE};
            return row[i] == least[sort];
        }
    }

    State s = new State();
    State image;
    final Shelf[] shelves = new Shelf[8];

    Model() {
        for (int d = 0; d < 8; d++) {
            shelves[d] = new Shelf();
        }
    }

    private static boolean in(int v, int from, int to) { return from <= v && v <= to; }
    private boolean person(int p) { return in(p, 0, s.people.size() - 1); }
    private static boolean mate(int m) { return in(m, 0, 9) && m != 8; }
    private int rowLack(int d) { return shelves[d].bare() ? -11 : shelves[d].row == null ? -12 : 0; }
    private int oneLack(int d) { return shelves[d].bare() ? -11 : shelves[d].one == null ? -12 : 0; }

    int cabinet(int d) {
        if (!in(d, 0, 7)) return -1;
        if (rowLack(d) != 0) return rowLack(d);
        if (shelves[d].sort != 0) return -12;
        StringBuilder b = new StringBuilder();
        for (int v : shelves[d].row) b.append((char) (v & 255));
        String text = b.toString();
        Pattern whole = Pattern.compile("(p[0-9]{3};|[ohd][0-9]{2};|e[0-9];|k[0-9]{3};)+", Pattern.DOTALL);
        for (int i = 0; i < text.length(); i++) {
            Matcher m = whole.matcher(text.substring(0, i + 1));
            if (!m.matches() && !m.hitEnd()) return -1000 - i;
        }
        if (!whole.matcher(text).matches()) return -1000 - text.length();
        State t = s.twin();
        int at = 0;
        int n = 0;
        for (String st : text.split(";")) {
            if (!statement(t, st)) return -2000 - at;
            at += st.length() + 1;
            n++;
        }
        s = t;
        return n;
    }

    private static boolean statement(State t, String st) {
        int[] v = st.substring(1).chars().map(c -> c - '0').toArray();
        switch (st.charAt(0)) {
            case 'p':
                if (v[0] > 7 || v[2] == 8 || t.people.size() == 8) return false;
                t.people.add(make(v[0], v[1], 0, v[2]));
                return true;
            case 'o':
                if (v[0] > 4) return false;
                t.costume[v[0]] = v[1];
                return true;
            case 'h':
                if (v[0] > 4 || v[1] >= t.people.size()) return false;
                t.hold(v[0], v[1]);
                return true;
            case 'e':
                if (v[0] > 4) return false;
                t.held.remove(v[0]);
                return true;
            case 'k':
                if (v[0] >= t.people.size()) return false;
                t.people.get(v[0]).known = v[1] * 10 + v[2];
                return true;
            default:
                int n = v[0] * 10 + v[1];
                if (n < 1 || n > 60 || t.day + n > 999) return false;
                for (int i = 0; i < n; i++) t.tick();
                return true;
        }
    }

    int one(int p, int what) {
        if (!person(p) || !in(what, 0, 7)) return -1;
        Minister m = s.people.get(p);
        List<Integer> chain = new ArrayList<>();
        for (int q = p; person(q) && !chain.contains(q); q = s.people.get(q).mate) chain.add(q);
        return new int[] {kindOf(m), m.figure, m.known, m.mate, s.officeOf(p), m.bears(), m.forgets(),
            chain.size()}[what];
    }

    int office(int f, int what) {
        if (!in(f, 0, 4) || !in(what, 0, 2)) return -1;
        return new int[] {s.costume[f], s.held.getOrDefault(f, -4), s.common(s.costume[f]) ? 1 : 0}[what];
    }

    int shows(int p, int k) {
        return person(p) && in(k, 0, 9) ? s.people.get(p).shows(k, s.day + 1) : -1;
    }

    int comes(int d, int m) {
        if (!in(d, 0, 7) || !mate(m)) return -1;
        if (oneLack(d) != 0) return oneLack(d);
        if (s.people.size() == 8) return -2;
        s.people.add(make(kindOf(shelves[d].one), shelves[d].one.figure, 0, m));
        return s.people.size() - 1;
    }

    int holds(int f, int p) {
        if (!in(f, 0, 4) || !person(p)) return -1;
        int old = s.held.getOrDefault(f, -4);
        s.hold(f, p);
        return old;
    }

    int empties(int f) {
        if (!in(f, 0, 4)) return -1;
        Integer old = s.held.remove(f);
        return old == null ? -3 : old;
    }

    int wears(int f, int k) {
        if (!in(f, 0, 4) || !in(k, 0, 9)) return -1;
        int old = s.costume[f];
        s.costume[f] = k;
        return old;
    }

    int knows(int p, int k) {
        if (!person(p) || !in(k, 0, 99)) return -1;
        int old = s.people.get(p).known;
        s.people.get(p).known = k;
        return old;
    }

    int marries(int p, int m) {
        if (!person(p) || !mate(m)) return -1;
        int old = s.people.get(p).mate;
        s.people.get(p).mate = m;
        return old;
    }

    int days(int n) {
        if (!in(n, 1, 60)) return -1;
        if (s.day + n > 999) return -3;
        s = s.after(n);
        return s.falls;
    }

    int heldThen(int f, int n) {
        return in(f, 0, 4) && in(n, 0, 60) ? s.after(n).held.getOrDefault(f, -4) : -1;
    }

    int knownThen(int p, int n) {
        return person(p) && in(n, 0, 60) ? s.after(n).people.get(p).known : -1;
    }

    int then(int n, int what) {
        if (!in(n, 0, 60) || !in(what, 0, 1)) return -1;
        return what == 0 ? s.after(n).bits() : s.after(n).falls;
    }

    int falls(int p) {
        if (!person(p)) return -1;
        int f = s.officeOf(p);
        for (int n = 0; n <= 60 && f >= 0; n++) {
            if (s.after(n).held.getOrDefault(f, -4) != p) return n;
        }
        return -4;
    }

    int empty(int f) {
        if (!in(f, 0, 4)) return -1;
        for (int n = 0; n <= 60; n++) {
            if (!s.after(n).held.containsKey(f)) return n;
        }
        return -4;
    }

    int lasts(int f, int p) {
        if (!in(f, 0, 4) || !person(p)) return -1;
        State t = s.twin();
        t.held.clear();
        t.held.put(f, p);
        for (int n = 1; n < 60; n++) {
            t.tick();
            if (t.officeOf(p) != f) return n;
        }
        return 60;
    }

    int bestCostume(int f, int n, int what) {
        if (!in(f, 0, 4) || !in(n, 0, 60) || !in(what, 0, 1)) return -1;
        int[] falls = new int[10];
        for (int k = 0; k < 10; k++) {
            State t = s.twin();
            t.costume[f] = k;
            falls[k] = t.after(n).falls;
        }
        int least = Arrays.stream(falls).min().getAsInt();
        int k = 0;
        while (falls[k] != least) k++;
        return what == 0 ? k : least - s.falls;
    }

    private int castMost;
    private int[] castFirst;

    private void cast(int f, int[] who, int sum, int[][] lasting) {
        if (f == 5) {
            if (sum > castMost) {
                castMost = sum;
                castFirst = who.clone();
            }
            return;
        }
        for (int p = 0; p < s.people.size(); p++) {
            boolean taken = false;
            for (int g = 0; g < f; g++) taken |= who[g] == p;
            if (!taken) {
                who[f] = p;
                cast(f + 1, who, sum + lasting[f][p], lasting);
            }
        }
        who[f] = -4;
        cast(f + 1, who, sum, lasting);
    }

    int casts(int f) {
        if (!in(f, -1, 4)) return -1;
        int[][] lasting = new int[5][8];
        for (int g = 0; g < 5; g++) {
            for (int p = 0; p < s.people.size(); p++) lasting[g][p] = lasts(g, p);
        }
        castMost = -1;
        cast(0, new int[5], 0, lasting);
        return f == -1 ? castMost : castFirst[f];
    }

    int send(int n) {
        if (!in(n, 0, 60)) return -1;
        int best = -4;
        int fewest = s.after(n).falls;
        for (int p = 0; p < s.people.size(); p++) {
            State t = s.twin();
            if (t.officeOf(p) >= 0) {
                t.held.remove(t.officeOf(p));
                int falls = t.after(n).falls;
                if (falls < fewest) {
                    fewest = falls;
                    best = p;
                }
            }
        }
        return best;
    }

    int change(int n) {
        if (!in(n, 0, 60)) return -1;
        int best = -4;
        int fewest = s.after(n).falls;
        for (int pair = 0; pair < 45; pair++) {
            int a = pair / 10;
            int b = pair % 10;
            if (a >= b || b > 4) continue;
            State t = s.twin();
            t.costume[a] = s.costume[b];
            t.costume[b] = s.costume[a];
            int falls = t.after(n).falls;
            if (falls < fewest) {
                fewest = falls;
                best = pair;
            }
        }
        return best;
    }

    int over(int what) {
        int sum = 0;
        int best = -4;
        switch (what) {
            case 0:
                return s.people.size() - s.held.size();
            case 1:
                for (int p = 0; p < s.people.size(); p++) {
                    int all = 0;
                    for (int k = 0; k < 10; k++) all += s.people.get(p).shows(k, s.day + 1);
                    sum += all == 0 ? 1 << p : 0;
                }
                return sum;
            case 2:
                for (int a : s.held.keySet()) {
                    for (int b : s.held.keySet()) sum += a < b && s.costume[a] == s.costume[b] ? 1 : 0;
                }
                return sum;
            case 3:
                for (int p = s.people.size() - 1; p >= 0; p--) {
                    Minister m = s.people.get(p);
                    if (s.officeOf(p) >= 0 && (best < 0 || m.bears() - m.known <= sum)) {
                        best = p;
                        sum = m.bears() - m.known;
                    }
                }
                return best;
            case 4:
                for (int n = 0; n <= 50; n++) {
                    if (s.after(n + 10).events == s.after(n).events) return n;
                }
                return -4;
            default:
                return 1000000001;
        }
    }

    int whatIs(int d, int p, int what) {
        if (!in(d, 0, 7) || !person(p) || !in(what, 0, 1)) return -1;
        if (rowLack(d) != 0) return rowLack(d);
        int bits = 0;
        for (int v = 0; v < (what == 0 ? 8 : 10); v++) {
            State t = s.twin();
            Minister m = t.people.get(p);
            t.people.set(p, make(what == 0 ? v : kindOf(m), what == 0 ? m.figure : v, m.known, m.mate));
            boolean so = true;
            for (int i = 0; i < shelves[d].row.length; i++) {
                so &= shelves[d].skipped(i) || t.people.get(p).known == shelves[d].row[i];
                t.tick();
            }
            bits += so ? 1 << v : 0;
        }
        return bits;
    }

    int whoHeld(int d, int f) {
        if (!in(d, 0, 7) || !in(f, 0, 4)) return -1;
        if (rowLack(d) != 0) return rowLack(d);
        int bits = 0;
        for (int p = 0; p < s.people.size(); p++) {
            State t = s.twin();
            t.hold(f, p);
            boolean so = true;
            for (int i = 0; i < shelves[d].row.length; i++) {
                so &= shelves[d].skipped(i) || (t.held.containsKey(f) ? 1 : 0) == shelves[d].row[i];
                t.tick();
            }
            bits += so ? 1 << p : 0;
        }
        return bits;
    }

    private int has(int a, boolean aGoesOn, int b, boolean bGoesOn, int n) {
        State t = s.twin();
        if (!aGoesOn) t.held.remove(s.officeOf(a));
        if (!bGoesOn) t.held.remove(s.officeOf(b));
        int sum = 0;
        for (int i = 1; i <= n; i++) sum += t.after(i).officeOf(a) >= 0 ? 1 : 0;
        return sum - t.after(n).people.get(a).known / 10;
    }

    int two(int a, int b, int n) {
        if (!person(a) || !person(b) || a == b || !in(n, 1, 30)) return -1;
        if (s.officeOf(a) < 0 || s.officeOf(b) < 0) return -3;
        for (int pair : new int[] {0, 1, 10, 11}) {
            boolean x = pair >= 10;
            boolean y = pair % 10 == 1;
            if (has(a, x, b, y, n) >= has(a, !x, b, y, n) && has(b, y, a, x, n) >= has(b, !y, a, x, n)) {
                return pair;
            }
        }
        return -4;
    }

    private static BigInteger ways(State t, int f, int n, int tt) {
        if (n == 0) return t.held.containsKey(f) ? BigInteger.ONE : BigInteger.ZERO;
        State bad = t.twin();
        for (int p : bad.held.values()) {
            bad.people.get(p).known = Math.min(99, bad.people.get(p).known + 5);
        }
        return ways(bad.after(1), f, n - 1, tt)
            .add(ways(t.after(1), f, n - 1, tt).multiply(BigInteger.valueOf(tt - 1)));
    }

    private static long part(BigInteger above, BigInteger below, int part) {
        return (part == 0 ? above : below).divide(above.gcd(below)).longValueExact();
    }

    long scandals(int f, int n, int t, int part) {
        if (!in(f, 0, 4) || !in(n, 0, 7) || !in(t, 2, 20) || !in(part, 0, 1)) return 1000000001;
        return part(ways(s, f, n, t), BigInteger.valueOf(t).pow(n), part);
    }

    long mean(int part) {
        if (!in(part, 0, 1)) return 1000000001;
        if (s.people.isEmpty()) return part;
        return part(BigInteger.valueOf(count(4)), BigInteger.valueOf(s.people.size()), part);
    }

    int forged(int d) {
        if (!in(d, 0, 7)) return -1;
        if (rowLack(d) != 0) return rowLack(d);
        for (int i = 0; i < shelves[d].row.length; i++) {
            if (i > 4 || s.held.getOrDefault(i, 9) != shelves[d].row[i]) return i;
        }
        return -4;
    }

    int judge(int d) {
        if (!in(d, 0, 7)) return -1;
        if (rowLack(d) != 0) return rowLack(d);
        for (int i = 0; i < shelves[d].row.length; i++) {
            if (!shelves[d].skipped(i) && s.after(i).held.size() != shelves[d].row[i]) return i;
        }
        return -4;
    }

    int years(int n, int z, int what) {
        if (!in(n, 1, 20) || !in(what, 0, 1)) return -1;
        int sum = 0;
        int[] seed = {z};
        for (int y = 0; y < n; y++) {
            State t = s.twin();
            for (int f = 0; f < 5; f++) t.costume[f] = draw(seed);
            for (Minister m : t.people) m.known = draw(seed);
            t = t.after(15);
            sum += what == 0 ? t.held.size() : t.falls - s.falls;
        }
        return sum;
    }

    private static int draw(int[] seed) {
        seed[0] = (int) (seed[0] * 1103515245L + 12345L);
        return (int) ((seed[0] & 0x7fffffffL) / 65536L % 10L);
    }

    int image() {
        image = s.twin();
        return s.day;
    }

    int restore() {
        if (image == null) return -3;
        s = image.twin();
        return s.day;
    }

    int count(int what) {
        if (!in(what, 0, 4)) return -1;
        return new int[] {s.people.size(), s.day, s.falls, s.bits(),
            s.people.stream().mapToInt(m -> m.known).sum()}[what];
    }

    int keep(int d, int what, int k, int figure) {
        if (!in(d, 0, 7) || !in(what, 0, 1)) return -1;
        if (what == 1 && (!in(k, 0, 7) || !in(figure, 0, 9))) return -1;
        shelves[d] = new Shelf();
        if (what == 1) shelves[d].one = make(k, figure, 0, 9);
        return 0;
    }

    int row(int d, int sort, int n) {
        if (!in(d, 0, 7) || !in(sort, 0, 2) || n > 100) return -1;
        if (n < 0) return -14;
        shelves[d] = new Shelf();
        shelves[d].sort = sort;
        shelves[d].row = new int[n];
        return 0;
    }

    int put(int d, int i, int v) {
        if (!in(d, 0, 7)) return -1;
        if (rowLack(d) != 0) return rowLack(d);
        if (!in(i, 0, shelves[d].row.length - 1)) return -13;
        int up = new int[] {24, 16, 0}[shelves[d].sort];
        shelves[d].row[i] = v << up >> up;
        return 0;
    }

    long element(int d, int i) {
        if (!in(d, 0, 7)) return BAD_ARGUMENT;
        if (rowLack(d) != 0 || !in(i, 0, shelves[d].row.length - 1)) return BAD_STATE;
        return shelves[d].row[i];
    }

    int copy(int d, int i, int e, int j, int n) {
        if (!in(d, 0, 7) || !in(e, 0, 7)) return -1;
        if (shelves[d].bare() || shelves[e].bare()) return -11;
        if (rowLack(d) != 0 || rowLack(e) != 0 || shelves[d].sort != shelves[e].sort) return -12;
        if (i < 0 || j < 0 || n < 0 || (long) i + n > shelves[d].row.length
                || (long) j + n > shelves[e].row.length) return -13;
        int[] from = shelves[d].row.clone();
        for (int c = 0; c < n; c++) shelves[e].row[j + c] = from[i + c];
        return n;
    }

    int cost(int d) {
        return !in(d, 0, 7) ? -1 : oneLack(d) != 0 ? oneLack(d) : shelves[d].one.cost();
    }

    int toss(int d) {
        return !in(d, 0, 7) ? -1 : oneLack(d) != 0 ? oneLack(d) : shelves[d].one.failure();
    }
}
