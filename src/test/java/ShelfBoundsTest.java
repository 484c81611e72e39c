/**
 * The boundaries of THE IMAGE, of SHELVES and of ROWS, a test for each
 * sentence that names one (promises 32 to 41).
 */
public final class ShelfBoundsTest {
    private static final Checks CHECKS = new Checks("ShelfBoundsTest");
    private static final int MIN = Integer.MIN_VALUE;
    private static final int MAX = Integer.MAX_VALUE;

    public static void main(String[] args) {
        noImage();
        imageOfNobody();
        imageOfAll();
        imageTakenAnew();
        imageOfFalls();
        shelvesStay();
        counts();
        nothingAtFirst();
        eightShelves();
        othersDoNotMatter();
        oneThingOnAShelf();
        rowSizes();
        rowsAreNothingAtFirst();
        sorts();
        lowestBits();
        firstAndLastPlaces();
        elementsThrow();
        copyNone();
        copyAll();
        copyOverItself();
        copyBetweenSorts();
        copyBeyond();
        costs();
        failures();
        takenFromAShelf();
        CHECKS.end();
    }

    private static void due(String call, long got, long want) {
        CHECKS.due(call, got, want);
    }

    private static void row(String name, OnlyInDisguise x, int d, int... want) {
        for (int i = 0; i < want.length; i++) {
            due(name + ", element " + i, x.element(d, i), want[i]);
        }
        CHECKS.dueThrow(name + ", behind the last", x, d, want.length, 2);
    }

    // "-3 there is none"
    private static void noImage() {
        OnlyInDisguise x = Checks.with("p009;h00;d01;");
        String before = Whole.cabinetOf(x);
        due("restore()", x.restore(), -3);
        CHECKS.same("behind it", Whole.cabinetOf(x), before);
        due("restore() once more", x.restore(), -3);
        due("image()", x.image(), 1);
        due("restore() then", x.restore(), 1);
    }

    // THE IMAGE of a new object: DAY 0 is no REFUSAL
    private static void imageOfNobody() {
        OnlyInDisguise x = new OnlyInDisguise();
        due("image()", x.image(), 0);
        Checks.tell(x, 0, "p009;p009;h00;o45;k199;k017;d01;");
        due("PEOPLE", x.count(0), 2);
        due("restore()", x.restore(), 0);
        due("PEOPLE then", x.count(0), 0);
        due("no one", x.one(0, 0), -1);
        due("DAY then", x.count(1), 0);
        due("FALLS then", x.count(2), 0);
        due("HELD then", x.count(3), 0);
        due("COSTUME then", x.office(4, 0), 4);
        due("they come again", x.cabinet(0), 7);
        due("eight would fit", x.count(0), 2);
    }

    // "all that there is": each thing that can be otherwise
    private static void imageOfAll() {
        OnlyInDisguise x = Checks.with("p031;p149;p759;h00;h12;o39;k116;k018;d02;");
        String then = Whole.cabinetOf(x);
        due("image()", x.image(), 2);
        Checks.tell(x, 6, "p009;o31;o08;h41;e0;k299;k000;d07;");
        x.marries(0, 7);
        x.marries(2, 0);
        due("not as it was", Whole.cabinetOf(x).equals(then) ? 1 : 0, 0);
        due("restore()", x.restore(), 2);
        CHECKS.same("RESTORED", Whole.cabinetOf(x), then);
    }

    private static void imageTakenAnew() {
        OnlyInDisguise x = Checks.with("p009;h00;");
        due("the first", x.image(), 0);
        x.days(3);
        due("THE IMAGE is not moved by days", x.restore(), 0);
        x.days(4);
        due("THE IMAGE stays when it is RESTORED", x.restore(), 0);
        x.days(2);
        due("the second", x.image(), 2);
        x.days(5);
        due("in place of the first", x.restore(), 2);
        due("KNOWN then", x.one(0, 2), 6);
        OnlyInDisguise late = Houses.late(999);
        due("on the last DAY", late.image(), 999);
        due("RESTORED on it", late.restore(), 999);
    }

    private static void imageOfFalls() {
        OnlyInDisguise x = Checks.with("p009;h00;k017;d01;");
        x.image();
        x.holds(4, 0);
        due("one more", x.days(1), 2);
        due("no more", x.days(1), 2);
        x.restore();
        due("FALLS as they were", x.count(2), 1);
        due("in mind, too", x.then(0, 1), 1);
    }

    // "all that there is, but SHELVES", "SHELVES stay as they are"
    private static void shelvesStay() {
        OnlyInDisguise x = new OnlyInDisguise();
        x.keep(0, 1, 2, 3);
        Checks.fill(x, 1, 1, 300);
        x.image();
        x.keep(0, 0, 0, 0);
        x.put(1, 0, 301);
        x.keep(2, 1, 7, 1);
        x.row(3, 2, 100);
        due("restore()", x.restore(), 0);
        due("what was taken away", x.cost(0), -11);
        row("what was put in", x, 1, 301);
        due("what was kept", x.toss(2), 299);
        due("the last of a new ROW", x.element(3, 99), 0);
    }

    // "-1 for others"
    private static void counts() {
        OnlyInDisguise x = Checks.with("p009;p009;p009;p009;p009;p009;p009;p009;h47;k099;k799;d01;");
        due("PEOPLE, all", x.count(0), 8);
        due("DAY", x.count(1), 1);
        due("FALLS", x.count(2), 1);
        due("HELD", x.count(3), 0);
        due("KNOWN of all", x.count(4), 97 + 99);
        for (int what : new int[] {-1, 5, MIN, MAX}) {
            due("count(" + what + ")", x.count(what), -1);
        }
        OnlyInDisguise most = Checks.with("p709;p709;p709;p709;p709;p709;p709;p709;"
            + "k099;k199;k299;k399;k499;k599;k699;k799;");
        due("KNOWN of all, most", most.count(4), 792);
        due("all HELD", Checks.with("p709;p709;p709;p709;p709;h00;h11;h22;h33;h44;").count(3), 31);
        due("the last HELD", Checks.with("p709;h40;").count(3), 16);
    }

    // "each hold nothing (at first)"
    private static void nothingAtFirst() {
        OnlyInDisguise x = new OnlyInDisguise();
        for (int d = 0; d < 8; d++) {
            due("cost(" + d + ")", x.cost(d), -11);
            due("toss(" + d + ")", x.toss(d), -11);
            due("put(" + d + ", 0, 0)", x.put(d, 0, 0), -11);
            due("cabinet(" + d + ")", x.cabinet(d), -11);
            due("comes(" + d + ", 9)", x.comes(d, 9), -11);
            CHECKS.dueThrow("element(" + d + ", 0)", x, d, 0, 2);
        }
    }

    // "SHELVES 0 .. 7": each its own
    private static void eightShelves() {
        OnlyInDisguise x = new OnlyInDisguise();
        for (int d = 0; d < 8; d++) {
            due("keep(" + d + ", ..)", x.keep(d, 1, 0, d + 1), 0);
        }
        for (int d = 0; d < 8; d++) {
            due("toss(" + d + ")", x.toss(d), d + 1);
        }
        for (int d = 0; d < 8; d++) {
            due("row(" + d + ", ..)", x.row(d, 2, 100), 0);
            x.put(d, 0, d + 100);
            x.put(d, 99, d + 200);
        }
        for (int d = 0; d < 8; d++) {
            due("the first of " + d, x.element(d, 0), d + 100);
            due("the second of " + d, x.element(d, 1), 0);
            due("the last of " + d, x.element(d, 99), d + 200);
        }
        for (int d : new int[] {-1, 8, MIN, MAX}) {
            due("keep(" + d + ", 1, ..)", x.keep(d, 1, 0, 0), -1);
            due("keep(" + d + ", 0, ..)", x.keep(d, 0, 0, 0), -1);
            due("row(" + d + ", ..)", x.row(d, 0, 0), -1);
            due("put(" + d + ", ..)", x.put(d, 0, 0), -1);
            due("cost(" + d + ")", x.cost(d), -1);
            due("toss(" + d + ")", x.toss(d), -1);
            CHECKS.dueThrow("element(" + d + ", 0)", x, d, 0, 1);
        }
        due("the first shelf's behind them", x.element(0, 0), 100);
        due("the last shelf's behind them", x.element(7, 99), 207);
    }

    // "what = 0 nothing (the others do not matter)"
    private static void othersDoNotMatter() {
        OnlyInDisguise x = new OnlyInDisguise();
        int[][] others = {{8, 0}, {-1, 0}, {0, 10}, {0, -1}, {MIN, MAX}, {MAX, MIN}};
        for (int[] other : others) {
            x.keep(0, 1, 0, 5);
            due("keep(0, 1, " + other[0] + ", " + other[1] + ")", x.keep(0, 1, other[0], other[1]), -1);
            due("he is still there", x.toss(0), 5);
            due("keep(0, 0, " + other[0] + ", " + other[1] + ")", x.keep(0, 0, other[0], other[1]), 0);
            due("nothing there", x.toss(0), -11);
            due("nothing in place of nothing", x.keep(0, 0, other[0], other[1]), 0);
        }
    }

    private static void oneThingOnAShelf() {
        OnlyInDisguise x = new OnlyInDisguise();
        x.row(0, 0, 5);
        due("one in place of a ROW", x.keep(0, 1, 5, 2), 0);
        due("no ROW any more", x.put(0, 0, 0), -12);
        CHECKS.dueThrow("no element", x, 0, 0, 2);
        due("another in his place", x.keep(0, 1, 7, 2), 0);
        due("his COST", x.cost(0), 1);
        due("a ROW in his place", x.row(0, 0, 0), 0);
        due("no one any more", x.cost(0), -12);
        due("an empty ROW is a ROW", x.put(0, 0, 0), -13);
        due("nothing in its place", x.keep(0, 0, 0, 0), 0);
        due("no ROW any more, nothing", x.put(0, 0, 0), -11);
    }

    // "0 .. 100 elements"; "-1 (n above 100)"; "-14 a size below 0"
    private static void rowSizes() {
        int[] sizes = {0, 1, 2, 50, 99, 100};
        for (int sort = 0; sort < 3; sort++) {
            OnlyInDisguise x = new OnlyInDisguise();
            for (int n : sizes) {
                due("a ROW of " + n, x.row(3, sort, n), 0);
                due("behind its last place", x.put(3, n, 1), -13);
                due("its last place", x.put(3, n - 1, 1), n == 0 ? -13 : 0);
                for (int not : new int[] {101, 102, 356, 65536, MAX}) {
                    due("a ROW of " + not, x.row(3, sort, not), -1);
                }
                for (int not : new int[] {-1, -100, -156, MIN}) {
                    due("a ROW of " + not, x.row(3, sort, not), -14);
                }
                if (n > 0) {
                    due("what was put in is there still", x.element(3, n - 1), 1);
                }
                CHECKS.dueThrow("and no more places", x, 3, n, 2);
            }
        }
    }

    // "elements, 0 at first"
    private static void rowsAreNothingAtFirst() {
        OnlyInDisguise x = new OnlyInDisguise();
        x.row(7, 2, 100);
        for (int i = 0; i < 100; i++) {
            x.put(7, i, i + 1);
        }
        x.row(7, 0, 0);
        x.row(7, 0, 100);
        for (int i = 0; i < 100; i++) {
            due("a new ROW, element " + i, x.element(7, i), 0);
        }
        x.put(7, 5, 9);
        due("what is refused changes no element", x.row(7, 0, 101), -1);
        due("it is there still", x.element(7, 5), 9);
        x.keep(7, 0, 0, 0);
        x.row(7, 0, 6);
        due("a new ROW behind nothing", x.element(7, 5), 0);
    }

    // "a SORT (0 bytes, 1 shorts, 2 ints)"
    private static void sorts() {
        OnlyInDisguise x = new OnlyInDisguise();
        for (int sort = 0; sort < 3; sort++) {
            due("SORT " + sort, x.row(0, sort, 1), 0);
            due("70000", x.put(0, 0, 70000), 0);
            due("of SORT " + sort, x.element(0, 0), sort == 2 ? 70000 : sort == 1 ? 4464 : 112);
        }
        for (int sort : new int[] {-1, 3, MIN, MAX}) {
            due("SORT " + sort, x.row(0, sort, 1), -1);
            due("SORT " + sort + " of a size below 0", x.row(0, sort, -1), -1);
            due("the old one is there still", x.element(0, 0), 70000);
        }
    }

    private static void keeps(int sort, int put, long kept) {
        OnlyInDisguise x = new OnlyInDisguise();
        x.row(0, sort, 3);
        due("put", x.put(0, 1, put), 0);
        due("SORT " + sort + " keeps of " + put, x.element(0, 1), kept);
        due("the one ahead of it", x.element(0, 0), 0);
        due("the one behind it", x.element(0, 2), 0);
    }

    // "what is put in keeps its lowest bits"
    private static void lowestBits() {
        int[] put = {0, 1, -1, 127, 128, -128, -129, 255, 256, -256, 32767, 32768, -32768, -32769, 65535, 65536, MAX, MIN};
        int[] bytes = {0, 1, -1, 127, -128, -128, 127, -1, 0, 0, -1, 0, 0, -1, -1, 0, -1, 0};
        int[] shorts = {0, 1, -1, 127, 128, -128, -129, 255, 256, -256, 32767, -32768, -32768, 32767, -1, 0, -1, 0};
        for (int i = 0; i < put.length; i++) {
            keeps(0, put[i], bytes[i]);
            keeps(1, put[i], shorts[i]);
            keeps(2, put[i], put[i]);
        }
    }

    private static void firstAndLastPlaces() {
        OnlyInDisguise x = new OnlyInDisguise();
        x.row(4, 1, 3);
        due("the first", x.put(4, 0, 7), 0);
        due("the last", x.put(4, 2, 9), 0);
        for (int i : new int[] {-1, 3, 4, 99, 100, 256, MIN, MAX}) {
            due("place " + i, x.put(4, i, 5), -13);
            CHECKS.dueThrow("element(4, " + i + ")", x, 4, i, 2);
        }
        row("behind them", x, 4, 7, 0, 9);
        x.row(5, 1, 100);
        due("the next shelf's first", x.element(5, 0), 0);
        due("place 100 of 100", x.put(4, 100, 1), -13);
        due("the next shelf's first still", x.element(5, 0), 0);
    }

    // "IllegalArgumentException: no such SHELF; IllegalStateException: no ROW, no such place"
    private static void elementsThrow() {
        OnlyInDisguise x = new OnlyInDisguise();
        x.keep(1, 1, 0, 0);
        x.row(2, 0, 0);
        x.row(3, 0, 1);
        CHECKS.dueThrow("no SHELF -1", x, -1, 0, 1);
        CHECKS.dueThrow("no SHELF 8, no place", x, 8, -1, 1);
        CHECKS.dueThrow("nothing", x, 0, 0, 2);
        CHECKS.dueThrow("one", x, 1, 0, 2);
        CHECKS.dueThrow("a ROW of none", x, 2, 0, 2);
        CHECKS.dueThrow("a ROW of one, place 0", x, 3, 0, 0);
        CHECKS.dueThrow("a ROW of one, place 1", x, 3, 1, 2);
        CHECKS.dueThrow("a ROW of one, place -1", x, 3, -1, 2);
    }

    // n 0: nothing comes, from and to each place that is there, and right behind the last
    private static void copyNone() {
        OnlyInDisguise x = new OnlyInDisguise();
        Checks.fill(x, 0, 0, 1, 2);
        Checks.fill(x, 1, 0, 3);
        x.row(2, 0, 0);
        due("from the first", x.copy(0, 0, 1, 0, 0), 0);
        due("from behind the last to behind the last", x.copy(0, 2, 1, 1, 0), 0);
        due("from nothing to nothing", x.copy(2, 0, 2, 0, 0), 0);
        due("one further from", x.copy(0, 3, 1, 0, 0), -13);
        due("one further to", x.copy(0, 0, 1, 2, 0), -13);
        due("from below 0", x.copy(0, -1, 1, 0, 0), -13);
        due("to below 0", x.copy(0, 0, 1, -1, 0), -13);
        due("from a ROW of none", x.copy(2, 1, 1, 0, 0), -13);
        due("to a ROW of none", x.copy(0, 0, 2, 1, 0), -13);
        row("from", x, 0, 1, 2);
        row("to", x, 1, 3);
    }

    private static void copyAll() {
        OnlyInDisguise x = new OnlyInDisguise();
        x.row(0, 2, 100);
        x.row(7, 2, 100);
        for (int i = 0; i < 100; i++) {
            x.put(0, i, MAX - i);
        }
        due("all 100", x.copy(0, 0, 7, 0, 100), 100);
        due("101", x.copy(0, 0, 7, 0, 101), -13);
        due("100 from the second", x.copy(0, 1, 7, 0, 100), -13);
        due("100 to the second", x.copy(0, 0, 7, 1, 100), -13);
        for (int i = 0; i < 100; i++) {
            due("came", x.element(7, i), MAX - i);
        }
        due("the last to the first", x.copy(0, 99, 7, 0, 1), 1);
        due("it came", x.element(7, 0), MAX - 99);
        due("the first to the last", x.copy(0, 0, 7, 99, 1), 1);
        due("it came, too", x.element(7, 99), MAX);
        due("the one ahead of it", x.element(7, 98), MAX - 98);
    }

    private static void copyOverItself() {
        OnlyInDisguise x = new OnlyInDisguise();
        Checks.fill(x, 0, 1, 1, 2, 3, 4, 5);
        due("one place up", x.copy(0, 0, 0, 1, 4), 4);
        row("one place up", x, 0, 1, 1, 2, 3, 4);
        due("one place down", x.copy(0, 1, 0, 0, 4), 4);
        row("one place down", x, 0, 1, 2, 3, 4, 4);
        due("on itself", x.copy(0, 0, 0, 0, 5), 5);
        row("on itself", x, 0, 1, 2, 3, 4, 4);
        due("one beyond", x.copy(0, 1, 0, 0, 5), -13);
        row("one beyond", x, 0, 1, 2, 3, 4, 4);
    }

    // "-12 (no ROWS of one SORT)"
    private static void copyBetweenSorts() {
        for (int from = 0; from < 3; from++) {
            for (int to = 0; to < 3; to++) {
                OnlyInDisguise x = new OnlyInDisguise();
                Checks.fill(x, 2, from, -5, 6);
                Checks.fill(x, 5, to, 1, 2, 3);
                due("SORT " + from + " to " + to, x.copy(2, 0, 5, 1, 2), from == to ? 2 : -12);
                row("SORT " + from + " to " + to, x, 5, from == to ? new int[] {1, -5, 6} : new int[] {1, 2, 3});
                row("it stays", x, 2, -5, 6);
            }
        }
    }

    // "-13 (n below 0, too)", numbers that would wrap round together with it
    private static void copyBeyond() {
        OnlyInDisguise x = new OnlyInDisguise();
        Checks.fill(x, 0, 0, 1, 2, 3);
        Checks.fill(x, 1, 0, 4, 5, 6);
        int[][] beyond = {{0, 0, -1}, {1, 1, -1}, {3, 3, -3}, {0, 0, MIN}, {MIN, MIN, MIN}, {1, 1, MAX}, {MAX, 0, 1},
            {0, MAX, 1}, {MAX, 0, MAX}, {MAX, MAX, 2}, {MIN, 0, 1}, {0, MIN, 1}, {-1, 0, 3}, {0, -1, 3}, {1, 0, 3},
            {0, 1, 3}, {0, 0, 4}, {2, 0, 2}, {0, 2, 2}, {3, 0, 1}, {0, 3, 1}};
        for (int[] b : beyond) {
            due("copy(0, " + b[0] + ", 1, " + b[1] + ", " + b[2] + ")", x.copy(0, b[0], 1, b[1], b[2]), -13);
            row("from", x, 0, 1, 2, 3);
            row("to", x, 1, 4, 5, 6);
        }
        due("three", x.copy(0, 0, 1, 0, 3), 3);
        row("to", x, 1, 1, 2, 3);
    }

    private static void costs() {
        int[] of0 = {4, 1, 6, 1, 0, 8, 1, 1};
        int[] of1 = {4, 1, 6, 2, 0, 8, 1, 1};
        int[] of9 = {4, 1, 6, 10, 0, 8, 1, 1};
        for (int k = 0; k < 8; k++) {
            OnlyInDisguise x = new OnlyInDisguise();
            x.keep(0, 1, k, 0);
            x.keep(1, 1, k, 1);
            x.keep(2, 1, k, 9);
            due("COST of KIND " + k + ", FIGURE 0", x.cost(0), of0[k]);
            due("COST of KIND " + k + ", FIGURE 1", x.cost(1), of1[k]);
            due("COST of KIND " + k + ", FIGURE 9", x.cost(2), of9[k]);
        }
    }

    // "HONEST ones, WIDOWS, CHILDREN, and any with FIGURE 0, have none"
    private static void failures() {
        int[] of1 = {1, -15, 101, -15, 101, 1, -15, 299};
        int[] of9 = {9, -15, 109, -15, 109, 9, -15, 299};
        for (int k = 0; k < 8; k++) {
            OnlyInDisguise x = new OnlyInDisguise();
            x.keep(0, 1, k, 0);
            x.keep(1, 1, k, 1);
            x.keep(2, 1, k, 9);
            due("FAILURE of KIND " + k + ", FIGURE 0", x.toss(0), -15);
            due("FAILURE of KIND " + k + ", FIGURE 1", x.toss(1), of1[k]);
            due("FAILURE of KIND " + k + ", FIGURE 9", x.toss(2), of9[k]);
            due("caught: it can be thrown again", x.toss(2), of9[k]);
        }
    }

    // "what is taken from a SHELF, stay there"
    private static void takenFromAShelf() {
        OnlyInDisguise x = new OnlyInDisguise();
        x.keep(6, 1, 5, 9);
        for (int p = 0; p < 8; p++) {
            due("comes again", x.comes(6, 9), p);
        }
        due("no room", x.comes(6, 9), -2);
        due("he stays", x.toss(6), 9);
        due("his COST", x.cost(6), 8);
        Checks.fill(x, 0, 2, 0, MIN, 7);
        x.whatIs(0, 0, 0);
        x.whatIs(0, 0, 1);
        x.whoHeld(0, 0);
        x.forged(0);
        x.judge(0);
        row("a told ROW stays", x, 0, 0, MIN, 7);
    }
}
