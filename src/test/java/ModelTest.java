import java.util.Random;

/** Runs of drawn calls on the class and on the model: every answer must be the same. */
public final class ModelTest {
    private static final int RUNS = 1200;
    private static final int CALLS = 512;

    private final Checks checks;
    private final Random random;
    private final OnlyInDisguise x = new OnlyInDisguise();
    private final Model m = new Model();
    private final int run;
    private String told = "";

    private ModelTest(Checks checks, int run) {
        this.checks = checks;
        this.run = run;
        this.random = new Random(run);
    }

    public static void main(String[] args) {
        Checks checks = new Checks("ModelTest");
        for (int run = 0; run < RUNS; run++) {
            ModelTest t = new ModelTest(checks, run);
            for (int i = 0; i < CALLS; i++) {
                t.step();
            }
        }
        checks.end();
    }

    /** Mostly 0 .. top, now and then just outside or far off. */
    private int near(int top) {
        int r = random.nextInt(60);
        if (r == 0) return -1;
        if (r == 1) return top + 1;
        if (r == 2) return random.nextInt();
        return random.nextInt(top + 1);
    }

    private int person() {
        return near(Math.max(0, m.s.people.size() - 1));
    }

    private void due(String call, long got, long want) {
        checks.due("run " + run + " " + call, got, want);
    }

    private String statement() {
        int r = random.nextInt(100);
        int people = Math.max(1, m.s.people.size());
        if (r < 30) return "p" + random.nextInt(8) + random.nextInt(10) + (random.nextInt(8) == 0 ? 9 : random.nextInt(8)) + ";";
        if (r < 45) return "o" + random.nextInt(5) + random.nextInt(10) + ";";
        if (r < 70) return "h" + random.nextInt(5) + random.nextInt(people) + ";";
        if (r < 75) return "e" + random.nextInt(5) + ";";
        if (r < 88) return "k" + random.nextInt(people) + random.nextInt(3) + random.nextInt(10) + ";";
        if (r < 96) return "d0" + (1 + random.nextInt(9)) + ";";
        String[] odd = {"p809;", "p008;", "p99", "o50;", "h50;", "h08;", "e5;", "k800;", "d00;", "d61;", "d60;", "d1;",
            "q00;", "p00;", "k00;", "e00;", ";", "e0", "d", "p0090;", " ", "E0;"};
        return odd[random.nextInt(odd.length)];
    }

    private void newText(int d) {
        StringBuilder b = new StringBuilder();
        int n = random.nextInt(9);
        for (int i = 0; i < n; i++) b.append(statement());
        if (b.length() > 100) b.setLength(100);
        told = b.toString();
        due("row(text)", x.row(d, 0, told.length()), m.row(d, 0, told.length()));
        for (int i = 0; i < told.length(); i++) {
            x.put(d, i, told.charAt(i));
            m.put(d, i, told.charAt(i));
        }
        due("cabinet(" + told + ")", x.cabinet(d), m.cabinet(d));
    }

    /** A ROW that tells what is so, with a gap or a slip at times. */
    private void newTold(int d, int sort, int what, int whose) {
        int n = random.nextInt(10) == 0 ? 100 : random.nextInt(12);
        x.row(d, sort, n);
        m.row(d, sort, n);
        int[] least = {-128, -32768, Integer.MIN_VALUE};
        Model.State t = m.s.twin();
        for (int i = 0; i < n; i++) {
            int v = what == 0 ? (whose < t.people.size() ? t.people.get(whose).known : 0)
                : what == 1 ? (t.held.containsKey(whose) ? 1 : 0)
                : what == 2 ? t.held.size()
                : t.held.getOrDefault(i, 9);
            int r = random.nextInt(30);
            if (r < 3) v = least[sort];
            if (r == 3) v++;
            due("put", x.put(d, i, v), m.put(d, i, v));
            if (what < 3) t.tick();
        }
    }

    private void step() {
        int r = random.nextInt(100);
        if (r < 40) change();
        else if (r < 75) look();
        else if (r < 90) lookTold();
        else shelves();
    }

    private void change() {
        int a = near(4);
        int p = person();
        int k = near(9);
        switch (random.nextInt(12)) {
            case 0: case 1: newText(random.nextInt(3)); break;
            case 2: due("comes", x.comes(a, k), m.comes(a, k)); break;
            case 3: case 4: case 5: due("holds(" + a + "," + p + ")", x.holds(a, p), m.holds(a, p)); break;
            case 6: due("empties(" + a + ")", x.empties(a), m.empties(a)); break;
            case 7: due("wears(" + a + "," + k + ")", x.wears(a, k), m.wears(a, k)); break;
            case 8: {
                int v = near(random.nextInt(4) == 0 ? 99 : 20);
                due("knows(" + p + "," + v + ")", x.knows(p, v), m.knows(p, v));
                break;
            }
            case 9: due("marries(" + p + "," + k + ")", x.marries(p, k), m.marries(p, k)); break;
            case 10: {
                int n = near(random.nextInt(10) == 0 ? 61 : 6);
                due("days(" + n + ")", x.days(n), m.days(n));
                break;
            }
            default:
                if (random.nextInt(3) == 0) due("image", x.image(), m.image());
                else if (random.nextInt(4) == 0) due("restore", x.restore(), m.restore());
        }
        all();
    }

    private void all() {
        for (int i = -1; i < 6; i++) due("count(" + i + ")", x.count(i), m.count(i));
        int p = person();
        int what = near(7);
        due("one(" + p + "," + what + ")", x.one(p, what), m.one(p, what));
        int f = near(4);
        int o = near(2);
        due("office(" + f + "," + o + ")", x.office(f, o), m.office(f, o));
    }

    private void look() {
        int f = near(4);
        int p = person();
        int q = person();
        int n = near(60);
        int what = near(1);
        String at = "(" + f + "," + p + "," + q + "," + n + "," + what + ")";
        switch (random.nextInt(17)) {
            case 0: due("shows" + at, x.shows(p, n % 11), m.shows(p, n % 11)); break;
            case 1: due("heldThen" + at, x.heldThen(f, n), m.heldThen(f, n)); break;
            case 2: due("knownThen" + at, x.knownThen(p, n), m.knownThen(p, n)); break;
            case 3: due("then" + at, x.then(n, what), m.then(n, what)); break;
            case 4: due("falls" + at, x.falls(p), m.falls(p)); break;
            case 5: due("empty" + at, x.empty(f), m.empty(f)); break;
            case 6: due("lasts" + at, x.lasts(f, p), m.lasts(f, p)); break;
            case 7: due("bestCostume" + at, x.bestCostume(f, n, what), m.bestCostume(f, n, what)); break;
            case 8: if (random.nextInt(8) == 0) due("casts" + at, x.casts(f - 1), m.casts(f - 1)); break;
            case 9: due("send" + at, x.send(n), m.send(n)); break;
            case 10: due("change" + at, x.change(n), m.change(n)); break;
            case 11: { int w = near(4); due("over" + w, x.over(w), m.over(w)); break; }
            case 12: case 13: { int d = near(30); due("two" + at + d, x.two(p, q, d), m.two(p, q, d)); break; }
            case 14: {
                int d = near(random.nextInt(8) == 0 ? 7 : 4);
                int t = near(18) + 2;
                due("scandals" + at + d + "," + t, x.scandals(f, d, t, what), m.scandals(f, d, t, what));
                break;
            }
            case 15: due("mean" + at, x.mean(what), m.mean(what)); break;
            default: {
                int y = near(19) + 1;
                int z = random.nextInt();
                due("years" + y + "," + z, x.years(y, z, what), m.years(y, z, what));
            }
        }
    }

    private void lookTold() {
        int d = near(7);
        int f = near(4);
        int p = person();
        int what = near(1);
        int kind = random.nextInt(4);
        boolean fresh = random.nextInt(4) > 0 && d >= 0 && d <= 7;
        if (fresh) newTold(d, random.nextInt(3), kind, kind == 0 ? Math.max(0, Math.min(7, p)) : f);
        switch (kind) {
            case 0: due("whatIs" + d + "," + p + "," + what, x.whatIs(d, p, what), m.whatIs(d, p, what)); break;
            case 1: due("whoHeld" + d + "," + f, x.whoHeld(d, f), m.whoHeld(d, f)); break;
            case 2: due("judge" + d, x.judge(d), m.judge(d)); break;
            default: due("forged" + d, x.forged(d), m.forged(d));
        }
    }

    private void shelves() {
        int d = near(7);
        int e = near(7);
        int i = near(12);
        int j = near(12);
        int n = near(6);
        switch (random.nextInt(9)) {
            case 0: { int w = near(1); due("keep", x.keep(d, w, n, i), m.keep(d, w, n, i)); break; }
            case 1: case 2: { int s = near(2); due("row", x.row(d, s, i), m.row(d, s, i)); break; }
            case 3: case 4: {
                int v = random.nextBoolean() ? random.nextInt() : random.nextInt(256);
                due("put", x.put(d, i, v), m.put(d, i, v));
                break;
            }
            case 5: due("copy", x.copy(d, i, e, j, n), m.copy(d, i, e, j, n)); break;
            case 6: due("cost" + d, x.cost(d), m.cost(d)); break;
            case 7: due("toss" + d, x.toss(d), m.toss(d)); break;
            default: due("cabinet" + d, x.cabinet(d), m.cabinet(d));
        }
        for (int at = 0; at < 13; at++) due("element" + d + "," + at, element(d, at), m.element(d, at));
    }

    private long element(int d, int i) {
        try {
            return x.element(d, i);
        } catch (IllegalArgumentException e) {
            return Model.BAD_ARGUMENT;
        } catch (IllegalStateException e) {
            return Model.BAD_STATE;
        }
    }
}
