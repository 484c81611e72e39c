/**
 * A cabinet whose members hold office only in disguise: who holds what when,
 * how known each of them is, and who falls first. The words in capitals in the
 * comments are the document's own.
 */
public final class OnlyInDisguise {

    private static final int MOST_PEOPLE = 8;
    private static final int OFFICES = 5;
    private static final int COSTUMES = 10;
    private static final int FIGURES = 10;
    private static final int KINDS = 8;
    private static final int NOBODY = -1;
    private static final int TOGETHER = -1;
    private static final int NO_MATE = 9;
    private static final int NOBODY_AS_TOLD = 9;
    private static final int MOST_KNOWN = 99;
    private static final int MOST_FALLS = 999;
    private static final int LAST_DAY = 999;
    private static final int FAR = 60;
    private static final int QUIET = 10;
    private static final int MOST_ELEMENTS = 100;

    private static final int NO_SUCH = -1;
    private static final int NO_ROOM = -2;
    private static final int NOT_SO = -3;
    private static final int NONE = -4;
    private static final int NOTHING_HELD = -11;
    private static final int ANOTHER_KIND = -12;
    private static final int NO_PLACE = -13;
    private static final int BELOW_NOTHING = -14;
    private static final int NO_FAILURE = -15;
    private static final int FAULT_OF_FORM = -1000;
    private static final int FAULT_OF_SENSE = -2000;
    private static final int REFUSED_BASE = 1000000000;

    private static final int MEASURE_KNOWN = 0;
    private static final int MEASURE_HELD = 1;
    private static final int MEASURE_HOW_MANY = 2;

    private final Cabinet now = new Cabinet();
    private final Cabinet mind = new Cabinet();
    private final Cabinet picture = new Cabinet();
    private boolean pictured = false;
    private final Shelves shelves = new Shelves();
    private final Casting casting = new Casting();
    private final Draws draws = new Draws();
    private final int[] oneHas = new int[4];
    private final int[] otherHas = new int[4];

    public OnlyInDisguise() {
    }

    // ---- the cabinet as told

    public int cabinet(int d) {
        int refusal = shelves.lackOfRow(d);
        if (refusal != 0) {
            return refusal;
        }
        if (!shelves.holdsBytes(d)) {
            return ANOTHER_KIND;
        }
        int broken = Text.brokenPlace(shelves, d);
        if (broken != Text.SOUND) {
            return FAULT_OF_FORM - broken;
        }
        mind.becomes(now);
        int told = Text.obeyed(shelves, d, mind);
        if (told >= 0) {
            now.becomes(mind);
        }
        return told;
    }

    public int one(int p, int what) {
        if (!now.isThere(p)) {
            return NO_SUCH;
        }
        switch (what) {
            case 0:
                return now.kind[p];
            case 1:
                return now.figure[p];
            case 2:
                return now.known[p];
            case 3:
                return now.mate[p];
            case 4:
                return orNone(now.seat[p]);
            case 5:
                return now.bearing(p);
            case 6:
                return Kinds.forgotten(now.kind[p], now.figure[p]);
            case 7:
                return now.chain(p);
            default:
                return NO_SUCH;
        }
    }

    public int office(int f, int what) {
        if (!isOffice(f)) {
            return NO_SUCH;
        }
        switch (what) {
            case 0:
                return now.costume[f];
            case 1:
                return orNone(now.holder[f]);
            case 2:
                return now.heldIn(now.costume[f]) > 1 ? 1 : 0;
            default:
                return NO_SUCH;
        }
    }

    public int shows(int p, int costume) {
        if (!now.isThere(p) || !isCostume(costume)) {
            return NO_SUCH;
        }
        return Kinds.shown(now.kind[p], now.figure[p], costume, now.day + 1);
    }

    public int comes(int d, int mate) {
        if (!isShelf(d) || !isMate(mate)) {
            return NO_SUCH;
        }
        int refusal = shelves.lackOfOne(d);
        if (refusal != 0) {
            return refusal;
        }
        return now.welcome(shelves.kindOn(d), shelves.figureOn(d), mate);
    }

    public int holds(int f, int p) {
        if (!isOffice(f) || !now.isThere(p)) {
            return NO_SUCH;
        }
        int before = now.holder[f];
        now.install(f, p);
        return orNone(before);
    }

    public int empties(int f) {
        if (!isOffice(f)) {
            return NO_SUCH;
        }
        int before = now.holder[f];
        if (before == NOBODY) {
            return NOT_SO;
        }
        now.vacate(f);
        return before;
    }

    public int wears(int f, int costume) {
        if (!isOffice(f) || !isCostume(costume)) {
            return NO_SUCH;
        }
        int before = now.costume[f];
        now.costume[f] = costume;
        return before;
    }

    public int knows(int p, int k) {
        if (!now.isThere(p) || k < 0 || k > MOST_KNOWN) {
            return NO_SUCH;
        }
        int before = now.known[p];
        now.known[p] = k;
        return before;
    }

    public int marries(int p, int mate) {
        if (!now.isThere(p) || !isMate(mate)) {
            return NO_SUCH;
        }
        int before = now.mate[p];
        now.mate[p] = mate;
        return before;
    }

    public int days(int n) {
        if (n < 1 || n > FAR) {
            return NO_SUCH;
        }
        if (now.day + n > LAST_DAY) {
            return NOT_SO;
        }
        now.pass(n);
        return now.fallen;
    }

    // ---- days on

    public int heldThen(int f, int n) {
        if (!isOffice(f) || !isAhead(n)) {
            return NO_SUCH;
        }
        foresee(n);
        return orNone(mind.holder[f]);
    }

    public int knownThen(int p, int n) {
        if (!now.isThere(p) || !isAhead(n)) {
            return NO_SUCH;
        }
        foresee(n);
        return mind.known[p];
    }

    public int then(int n, int what) {
        if (!isAhead(n) || !isChoice(what)) {
            return NO_SUCH;
        }
        foresee(n);
        return what == 0 ? mind.heldBits() : mind.fallen;
    }

    public int falls(int p) {
        if (!now.isThere(p)) {
            return NO_SUCH;
        }
        int f = now.seat[p];
        if (f == NOBODY) {
            return NONE;
        }
        mind.becomes(now);
        for (int n = 1; n <= FAR; n++) {
            mind.oneDay();
            if (mind.holder[f] != p) {
                return n;
            }
        }
        return NONE;
    }

    public int empty(int f) {
        if (!isOffice(f)) {
            return NO_SUCH;
        }
        mind.becomes(now);
        for (int n = 0; n <= FAR; n++) {
            if (mind.holder[f] == NOBODY) {
                return n;
            }
            mind.oneDay();
        }
        return NONE;
    }

    public int lasts(int f, int p) {
        if (!isOffice(f) || !now.isThere(p)) {
            return NO_SUCH;
        }
        return now.lasting(f, p);
    }

    // ---- costumes, who should hold what

    public int bestCostume(int f, int n, int what) {
        if (!isOffice(f) || !isAhead(n) || !isChoice(what)) {
            return NO_SUCH;
        }
        int best = 0;
        int fewest = fallenIn(f, 0, n);
        for (int k = 1; k < COSTUMES; k++) {
            int fallen = fallenIn(f, k, n);
            if (fallen < fewest) {
                fewest = fallen;
                best = k;
            }
        }
        return what == 0 ? best : fewest - now.fallen;
    }

    public int casts(int f) {
        if (f != TOGETHER && !isOffice(f)) {
            return NO_SUCH;
        }
        casting.weigh(now);
        return f == TOGETHER ? casting.most() : orNone(casting.chosen(f));
    }

    public int send(int n) {
        if (!isAhead(n)) {
            return NO_SUCH;
        }
        foresee(n);
        int fewest = mind.fallen;
        int best = NONE;
        for (int p = 0; p < now.people; p++) {
            int f = now.seat[p];
            if (f != NOBODY) {
                int fallen = fallenWithout(f, n);
                if (fallen < fewest) {
                    fewest = fallen;
                    best = p;
                }
            }
        }
        return best;
    }

    public int change(int n) {
        if (!isAhead(n)) {
            return NO_SUCH;
        }
        foresee(n);
        int fewest = mind.fallen;
        int best = NONE;
        for (int a = 0; a < OFFICES; a++) {
            for (int b = a + 1; b < OFFICES; b++) {
                int fallen = fallenChanged(a, b, n);
                if (fallen < fewest) {
                    fewest = fallen;
                    best = 10 * a + b;
                }
            }
        }
        return best;
    }

    public int over(int what) {
        switch (what) {
            case 0:
                return now.people - now.heldCount();
            case 1:
                return now.plainBits();
            case 2:
                return now.alike();
            case 3:
                return orNone(now.closest());
            case 4:
                return stable();
            default:
                return REFUSED_BASE - NO_SUCH;
        }
    }

    // ---- what kind one is, who held it

    public int whatIs(int d, int p, int what) {
        if (!isShelf(d) || !now.isThere(p) || !isChoice(what)) {
            return NO_SUCH;
        }
        int refusal = shelves.lackOfRow(d);
        if (refusal != 0) {
            return refusal;
        }
        int all = what == 0 ? KINDS : FIGURES;
        int bits = 0;
        for (int v = 0; v < all; v++) {
            mind.becomes(now);
            if (what == 0) {
                mind.kind[p] = v;
            } else {
                mind.figure[p] = v;
            }
            if (firstUnlike(d, MEASURE_KNOWN, p) == NONE) {
                bits |= 1 << v;
            }
        }
        return bits;
    }

    public int whoHeld(int d, int f) {
        if (!isShelf(d) || !isOffice(f)) {
            return NO_SUCH;
        }
        int refusal = shelves.lackOfRow(d);
        if (refusal != 0) {
            return refusal;
        }
        int bits = 0;
        for (int p = 0; p < now.people; p++) {
            mind.becomes(now);
            mind.install(f, p);
            if (firstUnlike(d, MEASURE_HELD, f) == NONE) {
                bits |= 1 << p;
            }
        }
        return bits;
    }

    public int two(int a, int b, int n) {
        if (!now.isThere(a) || !now.isThere(b) || a == b || n < 1 || n > 30) {
            return NO_SUCH;
        }
        if (now.seat[a] == NOBODY || now.seat[b] == NOBODY) {
            return NOT_SO;
        }
        for (int pair = 0; pair < 4; pair++) {
            playTwo(a, b, n, pair);
        }
        for (int pair = 0; pair < 4; pair++) {
            boolean oneStays = oneHas[pair] >= oneHas[pair ^ 2];
            boolean otherStays = otherHas[pair] >= otherHas[pair ^ 1];
            if (oneStays && otherStays) {
                return 10 * (pair >> 1) + (pair & 1);
            }
        }
        return NONE;
    }

    public long scandals(int f, int n, int t, int part) {
        if (!isOffice(f) || n < 0 || n > 7 || t < 2 || t > 20 || !isChoice(part)) {
            return REFUSED_BASE - NO_SUCH;
        }
        long above = 0;
        for (int days = 0; days < (1 << n); days++) {
            above += heldAfterScandals(f, n, days) ? chances(n, days, t) : 0;
        }
        long below = 1;
        for (int i = 0; i < n; i++) {
            below *= t;
        }
        return inLeastTerms(above, below, part);
    }

    public long mean(int part) {
        if (!isChoice(part)) {
            return REFUSED_BASE - NO_SUCH;
        }
        if (now.people == 0) {
            return part;
        }
        return inLeastTerms(now.knownOfAll(), now.people, part);
    }

    // ---- told lists, years by seeds

    public int forged(int d) {
        int refusal = shelves.lackOfRow(d);
        if (refusal != 0) {
            return refusal;
        }
        int length = shelves.lengthOf(d);
        for (int i = 0; i < length; i++) {
            if (!isOffice(i) || shelves.valueAt(d, i) != holderAsTold(i)) {
                return i;
            }
        }
        return NONE;
    }

    public int judge(int d) {
        int refusal = shelves.lackOfRow(d);
        if (refusal != 0) {
            return refusal;
        }
        mind.becomes(now);
        return firstUnlike(d, MEASURE_HOW_MANY, 0);
    }

    public int years(int n, int z, int what) {
        if (n < 1 || n > 20 || !isChoice(what)) {
            return NO_SUCH;
        }
        draws.start(z);
        int held = 0;
        int more = 0;
        for (int year = 0; year < n; year++) {
            oneYear();
            held += mind.heldCount();
            more += mind.fallen - now.fallen;
        }
        return what == 0 ? held : more;
    }

    // ---- the image, what is told

    public int image() {
        picture.becomes(now);
        pictured = true;
        return now.day;
    }

    public int restore() {
        if (!pictured) {
            return NOT_SO;
        }
        now.becomes(picture);
        return now.day;
    }

    public int count(int what) {
        switch (what) {
            case 0:
                return now.people;
            case 1:
                return now.day;
            case 2:
                return now.fallen;
            case 3:
                return now.heldBits();
            case 4:
                return now.knownOfAll();
            default:
                return NO_SUCH;
        }
    }

    // ---- shelves

    public int keep(int d, int what, int k, int figure) {
        if (!isShelf(d) || !isChoice(what)) {
            return NO_SUCH;
        }
        if (what == 0) {
            shelves.clear(d);
            return 0;
        }
        if (k < 0 || k >= KINDS || figure < 0 || figure >= FIGURES) {
            return NO_SUCH;
        }
        shelves.placeOne(d, k, figure);
        return 0;
    }

    public int row(int d, int sort, int n) {
        if (!isShelf(d) || sort < 0 || sort > Shelves.INTS || n > MOST_ELEMENTS) {
            return NO_SUCH;
        }
        if (n < 0) {
            return BELOW_NOTHING;
        }
        shelves.placeRow(d, sort, n);
        return 0;
    }

    public int put(int d, int i, int v) {
        int refusal = shelves.lackOfRow(d);
        if (refusal != 0) {
            return refusal;
        }
        if (!shelves.hasPlace(d, i)) {
            return NO_PLACE;
        }
        shelves.write(d, i, v);
        return 0;
    }

    public long element(int d, int i) throws IllegalArgumentException, IllegalStateException {
        if (!isShelf(d)) {
            throw new IllegalArgumentException("no such shelf");
        }
        if (shelves.lackOfRow(d) != 0) {
            throw new IllegalStateException("no row");
        }
        if (!shelves.hasPlace(d, i)) {
            throw new IllegalStateException("no such place");
        }
        return shelves.valueAt(d, i);
    }

    public int copy(int d, int i, int e, int j, int n) {
        if (!isShelf(d) || !isShelf(e)) {
            return NO_SUCH;
        }
        int from = shelves.lackOfRow(d);
        int to = shelves.lackOfRow(e);
        if (from == NOTHING_HELD || to == NOTHING_HELD) {
            return NOTHING_HELD;
        }
        if (from != 0 || to != 0 || !shelves.haveOneSort(d, e)) {
            return ANOTHER_KIND;
        }
        if (!shelves.hasPlaces(d, i, n) || !shelves.hasPlaces(e, j, n)) {
            return NO_PLACE;
        }
        shelves.move(d, i, e, j, n);
        return n;
    }

    public int cost(int d) {
        int refusal = shelves.lackOfOne(d);
        if (refusal != 0) {
            return refusal;
        }
        return Kinds.price(shelves.kindOn(d), shelves.figureOn(d));
    }

    public int toss(int d) {
        int refusal = shelves.lackOfOne(d);
        if (refusal != 0) {
            return refusal;
        }
        int kind = shelves.kindOn(d);
        int figure = shelves.figureOn(d);
        try {
            Kinds.fail(kind, figure);
        } catch (IllegalStateException ofMinisters) {
            return figure;
        } catch (IllegalArgumentException ofTailors) {
            return 100 + figure;
        } catch (UnsupportedOperationException ofSweepers) {
            return 200 + Kinds.borne(kind, figure);
        }
        return NO_FAILURE;
    }

    // ---- what numbers may be

    private static boolean isShelf(int d) {
        return d >= 0 && d < Shelves.ALL;
    }

    private static boolean isOffice(int f) {
        return f >= 0 && f < OFFICES;
    }

    private static boolean isCostume(int k) {
        return k >= 0 && k < COSTUMES;
    }

    private static boolean isMate(int mate) {
        return mate >= 0 && (mate < MOST_PEOPLE || mate == NO_MATE);
    }

    private static boolean isAhead(int n) {
        return n >= 0 && n <= FAR;
    }

    private static boolean isChoice(int what) {
        return what == 0 || what == 1;
    }

    private static int orNone(int number) {
        return number == NOBODY ? NONE : number;
    }

    // ---- what is thought through in mind

    private void foresee(int n) {
        mind.becomes(now);
        mind.pass(n);
    }

    private int fallenIn(int f, int costume, int n) {
        mind.becomes(now);
        mind.costume[f] = costume;
        mind.pass(n);
        return mind.fallen;
    }

    private int fallenWithout(int f, int n) {
        mind.becomes(now);
        mind.vacate(f);
        mind.pass(n);
        return mind.fallen;
    }

    private int fallenChanged(int a, int b, int n) {
        mind.becomes(now);
        mind.costume[a] = now.costume[b];
        mind.costume[b] = now.costume[a];
        mind.pass(n);
        return mind.fallen;
    }

    // The first quiet stretch begins now or on a day on which someone fell, so
    // only such days are looked at.
    private int stable() {
        mind.becomes(now);
        int begin = 0;
        for (int n = 1; n <= FAR; n++) {
            mind.oneDay();
            if (mind.fellToday > 0) {
                begin = n;
            } else if (n - begin >= QUIET) {
                return begin;
            }
        }
        return NONE;
    }

    // Goes on with what stands in mind: the callers set it up differently.
    private int firstUnlike(int d, int measure, int whose) {
        int length = shelves.lengthOf(d);
        for (int i = 0; i < length; i++) {
            if (i > 0) {
                mind.oneDay();
            }
            if (!shelves.isSkipped(d, i) && shelves.valueAt(d, i) != measured(measure, whose)) {
                return i;
            }
        }
        return NONE;
    }

    private int measured(int measure, int whose) {
        switch (measure) {
            case MEASURE_KNOWN:
                return mind.isThere(whose) ? mind.known[whose] : 0;
            case MEASURE_HELD:
                return isOffice(whose) && mind.holder[whose] != NOBODY ? 1 : 0;
            default:
                return mind.heldCount();
        }
    }

    // Bit 1 of the pair is the choice of a, bit 0 that of b.
    private void playTwo(int a, int b, int n, int pair) {
        mind.becomes(now);
        if ((pair & 2) == 0) {
            mind.sendHome(a);
        }
        if ((pair & 1) == 0) {
            mind.sendHome(b);
        }
        int daysOfA = 0;
        int daysOfB = 0;
        for (int i = 0; i < n; i++) {
            mind.oneDay();
            daysOfA += mind.seat[a] != NOBODY ? 1 : 0;
            daysOfB += mind.seat[b] != NOBODY ? 1 : 0;
        }
        oneHas[pair] = daysOfA - mind.known[a] / 10;
        otherHas[pair] = daysOfB - mind.known[b] / 10;
    }

    // Bit i of days tells whether there is a scandal ahead of day i.
    private boolean heldAfterScandals(int f, int n, int days) {
        mind.becomes(now);
        for (int i = 0; i < n; i++) {
            if ((days >> i & 1) == 1) {
                mind.scandal();
            }
            mind.oneDay();
        }
        return mind.holder[f] != NOBODY;
    }

    private static long chances(int n, int days, int t) {
        long ways = 1;
        for (int i = 0; i < n; i++) {
            if ((days >> i & 1) == 0) {
                ways *= t - 1;
            }
        }
        return ways;
    }

    private static long inLeastTerms(long above, long below, int part) {
        long wanted = part == 0 ? above : below;
        long common = commonDivisor(above, below);
        return common == 0 ? wanted : wanted / common;
    }

    private static long commonDivisor(long a, long b) {
        long larger = a;
        long lesser = b;
        for (int i = 0; i < 200 && lesser != 0; i++) {
            long rest = larger % lesser;
            larger = lesser;
            lesser = rest;
        }
        return larger;
    }

    private int holderAsTold(int f) {
        if (!isOffice(f) || now.holder[f] == NOBODY) {
            return NOBODY_AS_TOLD;
        }
        return now.holder[f];
    }

    private void oneYear() {
        mind.becomes(now);
        for (int f = 0; f < OFFICES; f++) {
            mind.costume[f] = draws.below(COSTUMES);
        }
        for (int p = 0; p < mind.people; p++) {
            mind.known[p] = draws.below(10);
        }
        mind.pass(15);
    }

    /** What the KINDS do, each by the one that it is under. */
    private static final class Kinds {
        static final int MINISTER = 0;
        static final int HONEST = 1;
        static final int TAILOR = 2;
        static final int WIDOW = 3;
        static final int DOG = 4;
        static final int ENEMY = 5;
        static final int CHILD = 6;
        static final int SWEEPER = 7;

        private static final int MINISTER_SHOWS = 3;
        private static final int HONEST_SHOWS = 2 * MINISTER_SHOWS;
        private static final int MINISTER_BEARS = 20;
        private static final int HONEST_BEARS = MINISTER_BEARS - 5;
        private static final int MINISTER_COSTS = 4;
        private static final int HONEST_COSTS = 1;
        private static final int DOG_COSTS = 0;
        private static final int HONEST_FORGETS = 1;
        private static final int TAILOR_FORGETS = 3;

        /** SHOWS, on a DAY of this number, in a COSTUME that is not COMMON. */
        static int shown(int kind, int figure, int costume, int day) {
            int away = Math.abs(costume - figure);
            switch (kind) {
                case HONEST:
                    return HONEST_SHOWS;
                case TAILOR:
                    return 1 + away / 3;
                case WIDOW:
                    return (day & 1) == 1 ? HONEST_SHOWS + figure : HONEST_SHOWS;
                case DOG:
                    return away == 0 ? 0 : 1 + away / 3;
                case ENEMY:
                    return Math.max(1, MINISTER_SHOWS - costume);
                case CHILD:
                    return costume < figure ? 9 : HONEST_SHOWS;
                case SWEEPER:
                    return 0;
                default:
                    return MINISTER_SHOWS;
            }
        }

        /** BEARS. */
        static int borne(int kind, int figure) {
            int tailor = MINISTER_BEARS + figure;
            switch (kind) {
                case HONEST:
                case WIDOW:
                    return HONEST_BEARS;
                case TAILOR:
                    return tailor;
                case DOG:
                    return 2 * tailor;
                case ENEMY:
                    return MINISTER_BEARS + 2 * figure;
                case CHILD:
                    return HONEST_BEARS / 2;
                case SWEEPER:
                    return 99;
                default:
                    return MINISTER_BEARS;
            }
        }

        /** FORGETS. */
        static int forgotten(int kind, int figure) {
            switch (kind) {
                case HONEST:
                case CHILD:
                    return HONEST_FORGETS;
                case TAILOR:
                case DOG:
                    return TAILOR_FORGETS;
                case WIDOW:
                    return 0;
                case ENEMY:
                    return figure;
                case SWEEPER:
                    return 9;
                default:
                    return 2;
            }
        }

        /** COST. */
        static int price(int kind, int figure) {
            switch (kind) {
                case HONEST:
                case CHILD:
                    return HONEST_COSTS;
                case TAILOR:
                    return MINISTER_COSTS + 2;
                case WIDOW:
                    return HONEST_COSTS + figure;
                case DOG:
                    return DOG_COSTS;
                case ENEMY:
                    return 2 * MINISTER_COSTS;
                case SWEEPER:
                    return DOG_COSTS + 1;
                default:
                    return MINISTER_COSTS;
            }
        }

        /** Throws the FAILURE, a class of exception for each way to count it, or returns if there is none. */
        static void fail(int kind, int figure) {
            if (figure == 0) {
                return;
            }
            switch (kind) {
                case MINISTER:
                case ENEMY:
                    throw new IllegalStateException("a minister fails");
                case TAILOR:
                case DOG:
                    throw new IllegalArgumentException("a tailor fails");
                case SWEEPER:
                    throw new UnsupportedOperationException("a sweeper fails");
                default:
                    return;
            }
        }
    }

    /** PEOPLE, OFFICES, FALLS and DAY: all that THE IMAGE holds. */
    private static final class Cabinet {
        int people = 0;
        int day = 0;
        int fallen = 0;
        // FALLS stops at its bound, so it can not tell whether someone fell.
        int fellToday = 0;
        final int[] kind = new int[MOST_PEOPLE];
        final int[] figure = new int[MOST_PEOPLE];
        final int[] known = new int[MOST_PEOPLE];
        final int[] mate = new int[MOST_PEOPLE];
        final int[] seat = new int[MOST_PEOPLE];
        final int[] costume = new int[OFFICES];
        final int[] holder = new int[OFFICES];

        Cabinet() {
            for (int f = 0; f < OFFICES; f++) {
                costume[f] = f;
                holder[f] = NOBODY;
            }
        }

        void becomes(Cabinet other) {
            people = other.people;
            day = other.day;
            fallen = other.fallen;
            for (int p = 0; p < MOST_PEOPLE; p++) {
                kind[p] = other.kind[p];
                figure[p] = other.figure[p];
                known[p] = other.known[p];
                mate[p] = other.mate[p];
                seat[p] = other.seat[p];
            }
            for (int f = 0; f < OFFICES; f++) {
                costume[f] = other.costume[f];
                holder[f] = other.holder[f];
            }
        }

        boolean isThere(int p) {
            return p >= 0 && p < people && p < MOST_PEOPLE;
        }

        int welcome(int newKind, int newFigure, int newMate) {
            if (people >= MOST_PEOPLE) {
                return NO_ROOM;
            }
            int p = people;
            kind[p] = newKind;
            figure[p] = newFigure;
            known[p] = 0;
            mate[p] = newMate;
            seat[p] = NOBODY;
            people++;
            return p;
        }

        void vacate(int f) {
            if (!isOffice(f)) {
                return;
            }
            int p = holder[f];
            if (isThere(p)) {
                seat[p] = NOBODY;
            }
            holder[f] = NOBODY;
        }

        void sendHome(int p) {
            if (isThere(p)) {
                vacate(seat[p]);
            }
        }

        void install(int f, int p) {
            if (!isOffice(f) || !isThere(p)) {
                return;
            }
            vacate(seat[p]);
            vacate(f);
            holder[f] = p;
            seat[p] = f;
        }

        // The callers have looked at p.
        int bearing(int p) {
            return Kinds.borne(kind[p], figure[p]);
        }

        void pass(int n) {
            for (int i = 0; i < n; i++) {
                oneDay();
            }
        }

        void oneDay() {
            day++;
            fellToday = 0;
            for (int p = 0; p < people; p++) {
                if (seat[p] == NOBODY) {
                    known[p] = Math.max(0, known[p] - Kinds.forgotten(kind[p], figure[p]));
                } else {
                    known[p] = Math.min(MOST_KNOWN, known[p] + showing(p));
                }
            }
            for (int f = 0; f < OFFICES; f++) {
                int p = holder[f];
                if (isThere(p) && known[p] >= bearing(p)) {
                    fall(f, p);
                }
            }
        }

        private int showing(int p) {
            int f = seat[p];
            if (!isOffice(f)) {
                return 0;
            }
            int alone = Kinds.shown(kind[p], figure[p], costume[f], day);
            return heldIn(costume[f]) > 1 ? alone / 2 : alone;
        }

        private void fall(int f, int p) {
            fellToday++;
            fallen = Math.min(MOST_FALLS, fallen + 1);
            vacate(f);
            int next = mate[p];
            if (isThere(next) && seat[next] == NOBODY && known[next] < bearing(next)) {
                holder[f] = next;
                seat[next] = f;
            }
        }

        void scandal() {
            for (int p = 0; p < people; p++) {
                if (seat[p] != NOBODY) {
                    known[p] = Math.min(MOST_KNOWN, known[p] + 5);
                }
            }
        }

        /** LASTS: alone in office nothing but his own SHOWS matters. */
        int lasting(int f, int p) {
            if (!isOffice(f) || !isThere(p)) {
                return 0;
            }
            int better = known[p];
            for (int n = 1; n < FAR; n++) {
                better = Math.min(MOST_KNOWN, better + Kinds.shown(kind[p], figure[p], costume[f], day + n));
                if (better >= bearing(p)) {
                    return n;
                }
            }
            return FAR;
        }

        int heldIn(int wanted) {
            int held = 0;
            for (int f = 0; f < OFFICES; f++) {
                if (holder[f] != NOBODY && costume[f] == wanted) {
                    held++;
                }
            }
            return held;
        }

        int heldCount() {
            return Integer.bitCount(heldBits());
        }

        int heldBits() {
            int bits = 0;
            for (int f = 0; f < OFFICES; f++) {
                if (holder[f] != NOBODY) {
                    bits |= 1 << f;
                }
            }
            return bits;
        }

        int knownOfAll() {
            int sum = 0;
            for (int p = 0; p < people; p++) {
                sum += known[p];
            }
            return sum;
        }

        int chain(int first) {
            int seen = 0;
            int p = first;
            for (int i = 0; i < MOST_PEOPLE && isThere(p) && (seen >> p & 1) == 0; i++) {
                seen |= 1 << p;
                p = mate[p];
            }
            return Integer.bitCount(seen);
        }

        int plainBits() {
            int bits = 0;
            for (int p = 0; p < people; p++) {
                if (isPlain(p)) {
                    bits |= 1 << p;
                }
            }
            return bits;
        }

        private boolean isPlain(int p) {
            for (int k = 0; k < COSTUMES; k++) {
                if (Kinds.shown(kind[p], figure[p], k, day + 1) != 0) {
                    return false;
                }
            }
            return true;
        }

        int alike() {
            int twos = 0;
            for (int a = 0; a < OFFICES; a++) {
                for (int b = a + 1; b < OFFICES; b++) {
                    boolean held = holder[a] != NOBODY && holder[b] != NOBODY;
                    if (held && costume[a] == costume[b]) {
                        twos++;
                    }
                }
            }
            return twos;
        }

        int closest() {
            int best = NOBODY;
            int least = 0;
            for (int p = 0; p < people; p++) {
                int beyond = bearing(p) - known[p];
                if (seat[p] != NOBODY && (best == NOBODY || beyond < least)) {
                    best = p;
                    least = beyond;
                }
            }
            return best;
        }
    }

    /** THE TEXT of a CABINET, read from a ROW of bytes. */
    private static final class Text {
        static final int SOUND = -1;

        /** The place of the first FAULT of kind 1, or SOUND. */
        static int brokenPlace(Shelves shelves, int d) {
            int length = shelves.lengthOf(d);
            // Below 0 a letter is due, at 0 the ";", above 0 so many digits.
            int due = -1;
            for (int i = 0; i < length; i++) {
                int sign = shelves.valueAt(d, i);
                if (due < 0) {
                    due = digitsBehind(sign);
                    if (due == 0) {
                        return i;
                    }
                } else if (due == 0) {
                    if (sign != ';') {
                        return i;
                    }
                    due = -1;
                } else {
                    if (sign < '0' || sign > '9') {
                        return i;
                    }
                    due--;
                }
            }
            return due < 0 && length > 0 ? SOUND : length;
        }

        private static int digitsBehind(int letter) {
            switch (letter) {
                case 'p':
                case 'k':
                    return 3;
                case 'o':
                case 'h':
                case 'd':
                    return 2;
                case 'e':
                    return 1;
                default:
                    return 0;
            }
        }

        /** Does what a sound text says: how many STATEMENTS, or the FAULT of kind 2. */
        static int obeyed(Shelves shelves, int d, Cabinet cabinet) {
            int length = shelves.lengthOf(d);
            int statements = 0;
            int i = 0;
            while (i < length) {
                int letter = shelves.valueAt(d, i);
                int a = shelves.valueAt(d, i + 1) - '0';
                int b = shelves.valueAt(d, i + 2) - '0';
                int c = shelves.valueAt(d, i + 3) - '0';
                if (!isObeyed(cabinet, letter, a, b, c)) {
                    return FAULT_OF_SENSE - i;
                }
                statements++;
                i += digitsBehind(letter) + 2;
            }
            return statements;
        }

        private static boolean isObeyed(Cabinet cabinet, int letter, int a, int b, int c) {
            switch (letter) {
                case 'p':
                    return a < KINDS && isMate(c) && cabinet.welcome(a, b, c) >= 0;
                case 'o':
                    return isDressed(cabinet, a, b);
                case 'h':
                    return isInstalled(cabinet, a, b);
                case 'e':
                    return isVacated(cabinet, a);
                case 'k':
                    return isMadeKnown(cabinet, a, 10 * b + c);
                default:
                    return isPassed(cabinet, 10 * a + b);
            }
        }

        private static boolean isPassed(Cabinet cabinet, int n) {
            boolean can = n >= 1 && n <= FAR && cabinet.day + n <= LAST_DAY;
            for (int i = 0; can && i < n; i++) {
                cabinet.oneDay();
            }
            return can;
        }

        private static boolean isDressed(Cabinet cabinet, int f, int costume) {
            if (!isOffice(f)) {
                return false;
            }
            cabinet.costume[f] = costume;
            return true;
        }

        private static boolean isInstalled(Cabinet cabinet, int f, int p) {
            if (!isOffice(f) || !cabinet.isThere(p)) {
                return false;
            }
            cabinet.install(f, p);
            return true;
        }

        private static boolean isVacated(Cabinet cabinet, int f) {
            if (!isOffice(f)) {
                return false;
            }
            cabinet.vacate(f);
            return true;
        }

        private static boolean isMadeKnown(Cabinet cabinet, int p, int known) {
            if (!cabinet.isThere(p)) {
                return false;
            }
            cabinet.known[p] = known;
            return true;
        }

    }

    /** SHELVES, with what each holds. */
    private static final class Shelves {
        static final int ALL = 8;
        static final int BYTES = 0;
        static final int SHORTS = 1;
        static final int INTS = 2;

        private static final int HOLDS_NOTHING = 0;
        private static final int HOLDS_ONE = 1;
        private static final int HOLDS_ROW = 2;

        private final int[] content = new int[ALL];
        private final int[] kind = new int[ALL];
        private final int[] figure = new int[ALL];
        private final int[] sort = new int[ALL];
        private final int[] length = new int[ALL];
        private final int[] elements = new int[ALL * MOST_ELEMENTS];

        void clear(int d) {
            if (isShelf(d)) {
                content[d] = HOLDS_NOTHING;
            }
        }

        void placeOne(int d, int newKind, int newFigure) {
            if (isShelf(d)) {
                content[d] = HOLDS_ONE;
                kind[d] = newKind;
                figure[d] = newFigure;
            }
        }

        void placeRow(int d, int newSort, int n) {
            if (!isShelf(d) || n < 0 || n > MOST_ELEMENTS) {
                return;
            }
            content[d] = HOLDS_ROW;
            sort[d] = newSort;
            length[d] = n;
            for (int i = 0; i < n; i++) {
                elements[d * MOST_ELEMENTS + i] = 0;
            }
        }

        int lackOfRow(int d) {
            return lackOf(d, HOLDS_ROW);
        }

        int lackOfOne(int d) {
            return lackOf(d, HOLDS_ONE);
        }

        private int lackOf(int d, int wanted) {
            if (!isShelf(d)) {
                return NO_SUCH;
            }
            if (content[d] == HOLDS_NOTHING) {
                return NOTHING_HELD;
            }
            return content[d] == wanted ? 0 : ANOTHER_KIND;
        }

        int kindOn(int d) {
            return isShelf(d) ? kind[d] : 0;
        }

        int figureOn(int d) {
            return isShelf(d) ? figure[d] : 0;
        }

        int lengthOf(int d) {
            return isShelf(d) ? length[d] : 0;
        }

        boolean holdsBytes(int d) {
            return isShelf(d) && sort[d] == BYTES;
        }

        boolean haveOneSort(int d, int e) {
            return isShelf(d) && isShelf(e) && sort[d] == sort[e];
        }

        boolean hasPlace(int d, int i) {
            return i >= 0 && i < lengthOf(d);
        }

        boolean hasPlaces(int d, int i, int n) {
            return n >= 0 && i >= 0 && i <= lengthOf(d) - n;
        }

        int valueAt(int d, int i) {
            return hasPlace(d, i) ? elements[d * MOST_ELEMENTS + i] : 0;
        }

        boolean isSkipped(int d, int i) {
            return isShelf(d) && valueAt(d, i) == leastOf(sort[d]);
        }

        private static int leastOf(int ofSort) {
            switch (ofSort) {
                case BYTES:
                    return -128;
                case SHORTS:
                    return -32768;
                default:
                    return -2147483648;
            }
        }

        void write(int d, int i, int v) {
            if (hasPlace(d, i)) {
                elements[d * MOST_ELEMENTS + i] = cutTo(sort[d], v);
            }
        }

        private static int cutTo(int ofSort, int v) {
            switch (ofSort) {
                case BYTES:
                    return (byte) v;
                case SHORTS:
                    return (short) v;
                default:
                    return v;
            }
        }

        void move(int d, int i, int e, int j, int n) {
            if (hasPlaces(d, i, n) && hasPlaces(e, j, n)) {
                System.arraycopy(elements, d * MOST_ELEMENTS + i, elements, e * MOST_ELEMENTS + j, n);
            }
        }
    }

    /** CAST: best[f * SETS + used] is the most that OFFICES from f on give when those of the set used are taken. */
    private static final class Casting {
        private static final int SETS = 1 << MOST_PEOPLE;

        private final int[] lasting = new int[OFFICES * MOST_PEOPLE];
        private final int[] best = new int[(OFFICES + 1) * SETS];
        private int people = 0;

        void weigh(Cabinet cabinet) {
            people = Math.min(MOST_PEOPLE, cabinet.people);
            for (int f = 0; f < OFFICES; f++) {
                for (int p = 0; p < people; p++) {
                    lasting[f * MOST_PEOPLE + p] = cabinet.lasting(f, p);
                }
            }
            for (int f = OFFICES - 1; f >= 0; f--) {
                for (int used = 0; used < (1 << people); used++) {
                    best[f * SETS + used] = bestFrom(f, used);
                }
            }
        }

        private int bestFrom(int f, int used) {
            int most = best[(f + 1) * SETS + used];
            for (int p = 0; p < people; p++) {
                if ((used >> p & 1) == 0) {
                    most = Math.max(most, with(f, used, p));
                }
            }
            return most;
        }

        private int with(int f, int used, int p) {
            return lasting[f * MOST_PEOPLE + p] + best[(f + 1) * SETS + (used | 1 << p)];
        }

        int most() {
            return best[0];
        }

        /** Who HOLDS an OFFICE by the first CAST: each takes the least one by whom the most can still be had. */
        int chosen(int wanted) {
            int used = 0;
            for (int f = 0; f < OFFICES; f++) {
                int p = firstBest(f, used);
                if (f == wanted) {
                    return p;
                }
                if (p != NOBODY) {
                    used |= 1 << p;
                }
            }
            return NOBODY;
        }

        private int firstBest(int f, int used) {
            for (int p = 0; p < people; p++) {
                if ((used >> p & 1) == 0 && with(f, used, p) == best[f * SETS + used]) {
                    return p;
                }
            }
            return NOBODY;
        }
    }

    /** DRAWS, one behind the other, from a seed. */
    private static final class Draws {
        private int z = 0;

        void start(int seed) {
            z = seed;
        }

        int below(int n) {
            z = z * 1103515245 + 12345;
            return n < 1 ? 0 : (z & 0x7fffffff) / 65536 % n;
        }
    }
}
