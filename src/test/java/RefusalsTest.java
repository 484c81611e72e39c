/**
 * Every REFUSAL of every call: at the borders of each argument and far beyond
 * them, where two or more of them meet (the first one as they are told at the
 * call), and with what there is behind it: as it was.
 */
public final class RefusalsTest {
    private static final Checks CHECKS = new Checks("RefusalsTest");
    private static final int MIN = Integer.MIN_VALUE;
    private static final int MAX = Integer.MAX_VALUE;
    private static final int NOT_REFUSED = 0;
    private static final long REFUSED_OF_OVER = 1000000001;

    private static final int[] SHELVES = {MIN, -1, 0, 1, 2, 3, 4, 5, 6, 7, 8, MAX};
    private static final int[] OFFICES = edges(0, 4);
    private static final int[] COSTUMES = edges(0, 9);
    private static final int[] MATES = {MIN, -1, 0, 7, 8, 9, 10, MAX};
    private static final int[] DAYS = edges(0, 60);
    private static final int[] CHOICES = edges(0, 1);
    // Of each house: the SORT and the size of the ROW on each SHELF, -1 none.
    private static final int[] SORTS = {-1, -1, -1, 0, 1, 2, 0, 0};
    private static final int[] SIZES = {-1, -1, -1, 4, 3, 3, 0, 65};

    /** A call with its arguments. */
    private interface Tried {
        long on(OnlyInDisguise x, int[] a);
    }

    /** The REFUSAL that is due, or NOT_REFUSED. */
    private interface Due {
        long by(int[] a);
    }

    public static void main(String[] args) {
        cabinetAsTold();
        cabinetChanged();
        daysRefused();
        ahead();
        costumes();
        told();
        odds();
        listsAndYears();
        imageAndCounts();
        shelves();
        copies();
        elements();
        meetings();
        meetingsOnShelves();
        CHECKS.end();
    }

    private static int[] edges(int least, int most) {
        return new int[] {MIN, least - 1, least, most, most + 1, MAX};
    }

    private static boolean in(int v, int least, int most) {
        return v >= least && v <= most;
    }

    private static boolean mate(int m) {
        return in(m, 0, 7) || m == 9;
    }

    /** -1, -11, -12 of a call that wants a ROW on SHELF d. */
    private static int wantsRow(int d) {
        return !in(d, 0, 7) ? -1 : d == Houses.NOTHING ? -11 : SORTS[d] < 0 ? -12 : NOT_REFUSED;
    }

    /** -1, -11, -12 of a call that wants one on SHELF d. */
    private static int wantsOne(int d) {
        return !in(d, 0, 7) ? -1 : d == Houses.NOTHING ? -11 : SORTS[d] >= 0 ? -12 : NOT_REFUSED;
    }

    private static int unless(boolean so) {
        return so ? NOT_REFUSED : -1;
    }

    private static boolean isRefusal(long answer) {
        return answer >= -3 && answer < 0 || answer >= -15 && answer <= -11
            || answer >= 1000000001 && answer <= 1000000015;
    }

    /** The call with all arguments of these sets: refused where it is due, and there alone. */
    private static void all(String name, Houses.Make make, Tried tried, Due due, int[]... sets) {
        int[] at = new int[sets.length];
        int[] a = new int[sets.length];
        while (true) {
            StringBuilder call = new StringBuilder(name).append('(');
            for (int i = 0; i < sets.length; i++) {
                a[i] = sets[i][at[i]];
                call.append(i == 0 ? "" : ", ").append(a[i]);
            }
            one(call.append(')').toString(), make, tried, due.by(a), a.clone());
            int i = sets.length - 1;
            while (i >= 0 && ++at[i] == sets[i].length) {
                at[i--] = 0;
            }
            if (i < 0) {
                return;
            }
        }
    }

    private static void one(String call, Houses.Make make, Tried tried, long due, int[] a) {
        if (due == NOT_REFUSED) {
            long answer = tried.on(make.anew(), a);
            CHECKS.due(call + " is refused by " + answer, isRefusal(answer) ? 1 : 0, 0);
        } else {
            CHECKS.still(call, make, due, x -> tried.on(x, a));
        }
    }

    private static void cabinetAsTold() {
        all("cabinet", Houses.FULL, (x, a) -> x.cabinet(a[0]),
            a -> wantsRow(a[0]) != NOT_REFUSED ? wantsRow(a[0]) : SORTS[a[0]] != 0 ? -12 : NOT_REFUSED, SHELVES);
        all("one", Houses.FULL, (x, a) -> x.one(a[0], a[1]),
            a -> unless(in(a[0], 0, 7) && in(a[1], 0, 7)), edges(0, 7), edges(0, 7));
        all("one of two", Houses.FEW, (x, a) -> x.one(a[0], a[1]),
            a -> unless(in(a[0], 0, 1) && in(a[1], 0, 7)), edges(0, 1), edges(0, 7));
        all("one of nobody", Houses.BARE, (x, a) -> x.one(a[0], a[1]), a -> -1, edges(0, 7), edges(0, 7));
        all("office", Houses.FULL, (x, a) -> x.office(a[0], a[1]),
            a -> unless(in(a[0], 0, 4) && in(a[1], 0, 2)), OFFICES, edges(0, 2));
        all("shows", Houses.FULL, (x, a) -> x.shows(a[0], a[1]),
            a -> unless(in(a[0], 0, 7) && in(a[1], 0, 9)), edges(0, 7), COSTUMES);
        all("shows of two", Houses.FEW, (x, a) -> x.shows(a[0], a[1]),
            a -> unless(in(a[0], 0, 1) && in(a[1], 0, 9)), edges(0, 1), COSTUMES);
    }

    private static void cabinetChanged() {
        all("comes, no room", Houses.FULL, (x, a) -> x.comes(a[0], a[1]),
            a -> !mate(a[1]) ? -1 : wantsOne(a[0]) != NOT_REFUSED ? wantsOne(a[0]) : -2, SHELVES, MATES);
        all("comes", Houses.FEW, (x, a) -> x.comes(a[0], a[1]),
            a -> !mate(a[1]) ? -1 : wantsOne(a[0]), SHELVES, MATES);
        all("holds", Houses.FULL, (x, a) -> x.holds(a[0], a[1]),
            a -> unless(in(a[0], 0, 4) && in(a[1], 0, 7)), OFFICES, edges(0, 7));
        all("holds of two", Houses.FEW, (x, a) -> x.holds(a[0], a[1]),
            a -> unless(in(a[0], 0, 4) && in(a[1], 0, 1)), OFFICES, edges(0, 1));
        all("empties", Houses.FULL, (x, a) -> x.empties(a[0]),
            a -> !in(a[0], 0, 4) ? -1 : a[0] > 2 ? -3 : 0, new int[] {MIN, -1, 0, 1, 2, 3, 4, 5, MAX});
        all("wears", Houses.FULL, (x, a) -> x.wears(a[0], a[1]),
            a -> unless(in(a[0], 0, 4) && in(a[1], 0, 9)), OFFICES, COSTUMES);
        all("knows", Houses.FULL, (x, a) -> x.knows(a[0], a[1]),
            a -> unless(in(a[0], 0, 7) && in(a[1], 0, 99)), edges(0, 7), edges(0, 99));
        all("knows of two", Houses.FEW, (x, a) -> x.knows(a[0], a[1]),
            a -> unless(in(a[0], 0, 1) && in(a[1], 0, 99)), edges(0, 1), edges(0, 99));
        all("marries", Houses.FULL, (x, a) -> x.marries(a[0], a[1]),
            a -> unless(in(a[0], 0, 7) && mate(a[1])), edges(0, 7), MATES);
        all("marries of two", Houses.FEW, (x, a) -> x.marries(a[0], a[1]),
            a -> unless(in(a[0], 0, 1) && mate(a[1])), edges(0, 1), MATES);
    }

    private static void daysRefused() {
        int[] near = {MIN, -1, 0, 1, 59, 60, 61, MAX};
        all("days", Houses.FULL, (x, a) -> x.days(a[0]), a -> unless(in(a[0], 1, 60)), near);
        all("days on DAY 999", Houses.LAST_DAY, (x, a) -> x.days(a[0]), a -> in(a[0], 1, 60) ? -3 : -1, near);
        all("days on DAY 960", Houses.DAY_960, (x, a) -> x.days(a[0]),
            a -> !in(a[0], 1, 60) ? -1 : a[0] > 39 ? -3 : 0, new int[] {MIN, 0, 1, 38, 39, 40, 41, 60, 61, MAX});
    }

    private static void ahead() {
        all("heldThen", Houses.FULL, (x, a) -> x.heldThen(a[0], a[1]),
            a -> unless(in(a[0], 0, 4) && in(a[1], 0, 60)), OFFICES, DAYS);
        all("knownThen", Houses.FULL, (x, a) -> x.knownThen(a[0], a[1]),
            a -> unless(in(a[0], 0, 7) && in(a[1], 0, 60)), edges(0, 7), DAYS);
        all("knownThen of two", Houses.FEW, (x, a) -> x.knownThen(a[0], a[1]),
            a -> unless(in(a[0], 0, 1) && in(a[1], 0, 60)), edges(0, 1), DAYS);
        all("then", Houses.FULL, (x, a) -> x.then(a[0], a[1]),
            a -> unless(in(a[0], 0, 60) && in(a[1], 0, 1)), DAYS, CHOICES);
        all("falls", Houses.FULL, (x, a) -> x.falls(a[0]), a -> unless(in(a[0], 0, 7)), edges(0, 7));
        all("falls of two", Houses.FEW, (x, a) -> x.falls(a[0]), a -> unless(in(a[0], 0, 1)), edges(0, 1));
        all("empty", Houses.FULL, (x, a) -> x.empty(a[0]), a -> unless(in(a[0], 0, 4)), OFFICES);
        all("lasts", Houses.FULL, (x, a) -> x.lasts(a[0], a[1]),
            a -> unless(in(a[0], 0, 4) && in(a[1], 0, 7)), OFFICES, edges(0, 7));
        all("lasts of two", Houses.FEW, (x, a) -> x.lasts(a[0], a[1]),
            a -> unless(in(a[0], 0, 4) && in(a[1], 0, 1)), OFFICES, edges(0, 1));
    }

    private static void costumes() {
        all("bestCostume", Houses.FULL, (x, a) -> x.bestCostume(a[0], a[1], a[2]),
            a -> unless(in(a[0], 0, 4) && in(a[1], 0, 60) && in(a[2], 0, 1)), OFFICES, DAYS, CHOICES);
        all("casts", Houses.FULL, (x, a) -> x.casts(a[0]), a -> unless(in(a[0], -1, 4)), edges(-1, 4));
        all("send", Houses.FULL, (x, a) -> x.send(a[0]), a -> unless(in(a[0], 0, 60)), DAYS);
        all("change", Houses.FULL, (x, a) -> x.change(a[0]), a -> unless(in(a[0], 0, 60)), DAYS);
        all("over", Houses.FULL, (x, a) -> x.over(a[0]), a -> in(a[0], 0, 4) ? 0 : REFUSED_OF_OVER, edges(0, 4));
    }

    private static void told() {
        all("whatIs", Houses.FULL, (x, a) -> x.whatIs(a[0], a[1], a[2]),
            a -> !in(a[1], 0, 7) || !in(a[2], 0, 1) ? -1 : wantsRow(a[0]), SHELVES, edges(0, 7), CHOICES);
        all("whatIs of two", Houses.FEW, (x, a) -> x.whatIs(a[0], a[1], a[2]),
            a -> !in(a[1], 0, 1) || !in(a[2], 0, 1) ? -1 : wantsRow(a[0]), SHELVES, edges(0, 1), CHOICES);
        all("whoHeld", Houses.FULL, (x, a) -> x.whoHeld(a[0], a[1]),
            a -> !in(a[1], 0, 4) ? -1 : wantsRow(a[0]), SHELVES, OFFICES);
        all("forged", Houses.FULL, (x, a) -> x.forged(a[0]), a -> wantsRow(a[0]), SHELVES);
        all("judge", Houses.FULL, (x, a) -> x.judge(a[0]), a -> wantsRow(a[0]), SHELVES);
        int[] people = {MIN, -1, 0, 2, 4, 7, 8, MAX};
        all("two", Houses.FULL, (x, a) -> x.two(a[0], a[1], a[2]),
            a -> !in(a[0], 0, 7) || !in(a[1], 0, 7) || a[0] == a[1] || !in(a[2], 1, 30) ? -1
                : a[0] == 0 || a[1] == 0 ? -3 : 0, people, people, edges(1, 30));
    }

    private static void odds() {
        all("scandals", Houses.FULL, (x, a) -> x.scandals(a[0], a[1], a[2], a[3]),
            a -> in(a[0], 0, 4) && in(a[1], 0, 7) && in(a[2], 2, 20) && in(a[3], 0, 1) ? 0 : REFUSED_OF_OVER,
            OFFICES, edges(0, 7), edges(2, 20), CHOICES);
        all("mean", Houses.FULL, (x, a) -> x.mean(a[0]), a -> in(a[0], 0, 1) ? 0 : REFUSED_OF_OVER, CHOICES);
        all("mean of nobody", Houses.BARE, (x, a) -> x.mean(a[0]),
            a -> in(a[0], 0, 1) ? 0 : REFUSED_OF_OVER, CHOICES);
    }

    private static void listsAndYears() {
        all("years", Houses.FULL, (x, a) -> x.years(a[0], a[1], a[2]),
            a -> unless(in(a[0], 1, 20) && in(a[2], 0, 1)), edges(1, 20), new int[] {MIN, -1, 0, MAX}, CHOICES);
    }

    private static void imageAndCounts() {
        all("restore without an image", Houses.FEW, (x, a) -> x.restore(), a -> -3, new int[] {0});
        all("restore of a new object", Houses.BARE, (x, a) -> x.restore(), a -> -3, new int[] {0});
        all("restore", Houses.FULL, (x, a) -> x.restore(), a -> 0, new int[] {0});
        all("count", Houses.FULL, (x, a) -> x.count(a[0]), a -> unless(in(a[0], 0, 4)), edges(0, 4));
        all("count of nobody", Houses.BARE, (x, a) -> x.count(a[0]), a -> unless(in(a[0], 0, 4)), edges(0, 4));
    }

    private static void shelves() {
        all("keep", Houses.FULL, (x, a) -> x.keep(a[0], a[1], a[2], a[3]),
            a -> unless(in(a[0], 0, 7) && (a[1] == 0 || a[1] == 1 && in(a[2], 0, 7) && in(a[3], 0, 9))),
            new int[] {MIN, -1, 0, 1, 3, 7, 8, MAX}, CHOICES, edges(0, 7), edges(0, 9));
        all("row", Houses.FULL, (x, a) -> x.row(a[0], a[1], a[2]),
            a -> !in(a[0], 0, 7) || !in(a[1], 0, 2) || a[2] > 100 ? -1 : a[2] < 0 ? -14 : 0,
            SHELVES, edges(0, 2), edges(0, 100));
        all("put", Houses.FULL, (x, a) -> x.put(a[0], a[1], a[2]),
            a -> wantsRow(a[0]) != NOT_REFUSED ? wantsRow(a[0]) : in(a[1], 0, SIZES[a[0]] - 1) ? 0 : -13,
            SHELVES, new int[] {MIN, -1, 0, 2, 3, 4, 64, 65, 99, 100, MAX}, new int[] {5});
        all("cost", Houses.FULL, (x, a) -> x.cost(a[0]), a -> wantsOne(a[0]), SHELVES);
        all("toss", Houses.FULL, (x, a) -> x.toss(a[0]),
            a -> wantsOne(a[0]) != NOT_REFUSED ? wantsOne(a[0]) : a[0] == Houses.HONEST_OF_6 ? -15 : 0, SHELVES);
    }

    private static long copyDue(int[] a) {
        int d = a[0];
        int e = a[2];
        if (!in(d, 0, 7) || !in(e, 0, 7)) {
            return -1;
        }
        if (d == Houses.NOTHING || e == Houses.NOTHING) {
            return -11;
        }
        if (SORTS[d] < 0 || SORTS[e] < 0 || SORTS[d] != SORTS[e]) {
            return -12;
        }
        boolean there = a[1] >= 0 && a[3] >= 0 && a[4] >= 0;
        return there && (long) a[1] + a[4] <= SIZES[d] && (long) a[3] + a[4] <= SIZES[e] ? NOT_REFUSED : -13;
    }

    private static void copies() {
        int[] from = {MIN, -1, 0, 3, 4, 5, MAX};
        int[] to = {MIN, -1, 0, 61, 65, 66, MAX};
        int[] sizes = {MIN, -1, 0, 1, 4, 5, MAX};
        all("copy", Houses.FULL, (x, a) -> x.copy(a[0], a[1], a[2], a[3], a[4]), RefusalsTest::copyDue,
            new int[] {Houses.BYTES}, from, new int[] {Houses.TEXT}, to, sizes);
        all("copy", Houses.FULL, (x, a) -> x.copy(a[0], a[1], a[2], a[3], a[4]), RefusalsTest::copyDue,
            new int[] {Houses.TEXT}, to, new int[] {Houses.BYTES}, from, sizes);
        all("copy", Houses.FULL, (x, a) -> x.copy(a[0], a[1], a[2], a[3], a[4]), RefusalsTest::copyDue,
            SHELVES, new int[] {0, -1}, SHELVES, new int[] {0, 100}, new int[] {0, 1, -1});
    }

    /** What element() throws: 1 IllegalArgumentException, 2 IllegalStateException, 0 nothing. */
    private static int thrownBy(OnlyInDisguise x, int d, int i) {
        try {
            x.element(d, i);
            return 0;
        } catch (IllegalArgumentException noSuchShelf) {
            return 1;
        } catch (IllegalStateException noRowOrPlace) {
            return 2;
        }
    }

    private static void elements() {
        for (int d : SHELVES) {
            for (int i : new int[] {MIN, -1, 0, 2, 3, 4, 64, 65, 99, 100, MAX}) {
                int due = !in(d, 0, 7) ? 1 : in(i, 0, SIZES[d] - 1) ? 0 : 2;
                CHECKS.still("element(" + d + ", " + i + ") throws", Houses.FULL, due, x -> thrownBy(x, d, i));
            }
        }
    }

    /** In a full house: no room; SHELF 0 nothing, 1 and 2 one each, from 3 on ROWS. */
    private static void meets(String call, long want, Checks.Call tried) {
        CHECKS.still(call, Houses.FULL, want, tried);
    }

    private static void meetings() {
        meets("comes: -1 (the SHELF) and -2", -1, x -> x.comes(8, 9));
        meets("comes: -1 (the MATE) and -11 and -2", -1, x -> x.comes(Houses.NOTHING, 8));
        meets("comes: -1 (the MATE) and -12 and -2", -1, x -> x.comes(Houses.BYTES, 8));
        meets("comes: -1 (the MATE) and -2", -1, x -> x.comes(Houses.ENEMY_OF_5, 8));
        meets("comes: -11 and -2", -11, x -> x.comes(Houses.NOTHING, 9));
        meets("comes: -12 and -2", -12, x -> x.comes(Houses.BYTES, 9));
        CHECKS.still("days: -1 (61) and -3", Houses.LAST_DAY, -1, x -> x.days(61));
        CHECKS.still("days: -1 (the greatest) and -3", Houses.LAST_DAY, -1, x -> x.days(MAX));
        meets("cabinet: -12 (ROW of shorts) and no text", -12, x -> x.cabinet(Houses.SHORTS));
        meets("whatIs: -1 (the one) and -11", -1, x -> x.whatIs(Houses.NOTHING, 8, 0));
        meets("whatIs: -1 (the one) and -12", -1, x -> x.whatIs(Houses.ENEMY_OF_5, 8, 0));
        meets("whatIs: -1 (what) and -11", -1, x -> x.whatIs(Houses.NOTHING, 0, 2));
        meets("whatIs: -1 (what) and -12", -1, x -> x.whatIs(Houses.ENEMY_OF_5, 0, 2));
        meets("whoHeld: -1 (the OFFICE) and -11", -1, x -> x.whoHeld(Houses.NOTHING, 5));
        meets("whoHeld: -1 (the OFFICE) and -12", -1, x -> x.whoHeld(Houses.ENEMY_OF_5, 5));
        meets("two: -1 (one twice) and -3", -1, x -> x.two(0, 0, 5));
        meets("two: -1 (n) and -3 (the one)", -1, x -> x.two(0, 2, 31));
        meets("two: -1 (n) and -3 (the other)", -1, x -> x.two(2, 0, 0));
        meets("two: -1 (the one) and -3 (the other)", -1, x -> x.two(8, 0, 5));
        meets("two: -1 (the other) and -3 (the one)", -1, x -> x.two(0, -1, 5));
    }

    private static void meetingsOnShelves() {
        meets("row: -1 (the SHELF) and -14", -1, x -> x.row(8, 0, -1));
        meets("row: -1 (the SORT) and -14", -1, x -> x.row(3, 3, -1));
        meets("put: -1 and -13", -1, x -> x.put(8, -1, 0));
        meets("put: -11 and -13", -11, x -> x.put(Houses.NOTHING, -1, 0));
        meets("put: -12 and -13", -12, x -> x.put(Houses.ENEMY_OF_5, -1, 0));
        meets("copy: -1 and -11", -1, x -> x.copy(Houses.NOTHING, 0, 8, 0, 1));
        meets("copy: -1 and -12", -1, x -> x.copy(8, 0, Houses.ENEMY_OF_5, 0, 1));
        meets("copy: -1 and -13", -1, x -> x.copy(Houses.BYTES, 0, -1, 0, -1));
        meets("copy: -11 (from) and -12 (to)", -11, x -> x.copy(Houses.NOTHING, 0, Houses.ENEMY_OF_5, 0, 1));
        meets("copy: -12 (from) and -11 (to)", -11, x -> x.copy(Houses.ENEMY_OF_5, 0, Houses.NOTHING, 0, 1));
        meets("copy: -11 (from) and -13", -11, x -> x.copy(Houses.NOTHING, 0, Houses.BYTES, 0, -1));
        meets("copy: -11 (to) and -13", -11, x -> x.copy(Houses.BYTES, 0, Houses.NOTHING, 0, -1));
        meets("copy: -12 (one) and -13", -12, x -> x.copy(Houses.BYTES, 0, Houses.ENEMY_OF_5, 0, -1));
        meets("copy: -12 (another SORT) and -13", -12, x -> x.copy(Houses.BYTES, 0, Houses.SHORTS, 0, 4));
    }
}
