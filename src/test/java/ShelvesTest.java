/** Promises 35 to 41: shelves. */
public final class ShelvesTest {
    private static final Checks CHECKS = new Checks("ShelvesTest");

    public static void main(String[] args) {
        keeping();
        rows();
        putting();
        elements();
        copying();
        costsAndFailures();
        CHECKS.end();
    }

    private static void due(String call, long got, long want) {
        CHECKS.due(call, got, want);
    }

    private static void keeping() {
        OnlyInDisguise x = new OnlyInDisguise();
        due("keep one", x.keep(7, 1, 7, 9), 0);
        due("he is there", x.cost(7), 1);
        due("keep(8, ..)", x.keep(8, 1, 0, 0), -1);
        due("keep(-1, ..)", x.keep(-1, 0, 0, 0), -1);
        due("what 2", x.keep(7, 2, 0, 0), -1);
        due("what -1", x.keep(7, -1, 0, 0), -1);
        due("kind 8", x.keep(7, 1, 8, 0), -1);
        due("kind -1", x.keep(7, 1, -1, 0), -1);
        due("figure 10", x.keep(7, 1, 0, 10), -1);
        due("figure -1", x.keep(7, 1, 0, -1), -1);
        due("he is still there", x.toss(7), 299);
        due("nothing, whatever else", x.keep(7, 0, -5, 77), 0);
        due("nothing there", x.cost(7), -11);
        x.row(7, 0, 3);
        due("nothing in place of a row", x.keep(7, 0, 0, 0), 0);
        due("no row there", x.put(7, 0, 0), -11);
    }

    private static void rows() {
        OnlyInDisguise x = new OnlyInDisguise();
        due("a row of 100", x.row(0, 2, 100), 0);
        due("its last", x.put(0, 99, 5), 0);
        due("a row of 101", x.row(0, 2, 101), -1);
        due("sort 3", x.row(0, 3, 1), -1);
        due("sort -1", x.row(0, -1, 1), -1);
        due("row(8, ..)", x.row(8, 0, 1), -1);
        due("row(-1, ..)", x.row(-1, 0, 1), -1);
        due("a size below 0", x.row(0, 0, -1), -14);
        due("least size", x.row(0, 0, Integer.MIN_VALUE), -14);
        due("greatest size", x.row(0, 0, Integer.MAX_VALUE), -1);
        due("shelf 8 ahead of a size below 0", x.row(8, 0, -1), -1);
        due("sort 3 ahead of a size below 0", x.row(0, 3, -1), -1);
        due("the old one stays", x.element(0, 99), 5);
        due("a new one", x.row(0, 2, 100), 0);
        due("is 0 at first", x.element(0, 99), 0);
        x.put(0, 0, 7);
        x.row(0, 2, 1);
        due("is 0 at first, anew", x.element(0, 0), 0);
        Checks.fill(x, 1, 2, 8);
        due("a full row again", x.row(0, 2, 100), 0);
        due("leaves the next shelf alone", x.element(1, 0), 8);
        due("a full row on the last shelf", x.row(7, 0, 100), 0);
        due("its last", x.element(7, 99), 0);
        due("a row of 0", x.row(1, 0, 0), 0);
        due("has no place", x.put(1, 0, 0), -13);
        due("in place of one", x.keep(2, 1, 0, 0), 0);
        due("a row there", x.row(2, 0, 1), 0);
        due("no one there", x.cost(2), -12);
    }

    private static void putting() {
        OnlyInDisguise x = new OnlyInDisguise();
        int[] values = {0, 127, 128, 255, 256, -1, -129, 70000, 32768, Integer.MAX_VALUE, Integer.MIN_VALUE};
        long[][] kept = {
            {0, 127, -128, -1, 0, -1, 127, 112, 0, -1, 0},
            {0, 127, 128, 255, 256, -1, -129, 4464, -32768, -1, 0},
            {0, 127, 128, 255, 256, -1, -129, 70000, 32768, Integer.MAX_VALUE, Integer.MIN_VALUE}};
        for (int sort = 0; sort < 3; sort++) {
            x.row(0, sort, values.length);
            for (int i = 0; i < values.length; i++) {
                due("put(0, " + i + ", " + values[i] + ")", x.put(0, i, values[i]), 0);
                due("sort " + sort + " keeps of " + values[i], x.element(0, i), kept[sort][i]);
            }
        }
        due("place -1", x.put(0, -1, 0), -13);
        due("place 11", x.put(0, 11, 0), -13);
        due("shelf 8", x.put(8, -1, 0), -1);
        due("shelf -1", x.put(-1, -1, 0), -1);
        due("nothing there", x.put(1, -1, 0), -11);
        x.keep(1, 1, 0, 0);
        due("one there", x.put(1, -1, 0), -12);
    }

    private static void elements() {
        OnlyInDisguise x = new OnlyInDisguise();
        CHECKS.dueThrow("shelf 8", x, 8, 0, 1);
        CHECKS.dueThrow("shelf -1", x, -1, -1, 1);
        CHECKS.dueThrow("nothing there", x, 0, 0, 2);
        x.keep(0, 1, 0, 0);
        CHECKS.dueThrow("one there", x, 0, 0, 2);
        x.row(0, 1, 2);
        CHECKS.dueThrow("place 0", x, 0, 0, 0);
        CHECKS.dueThrow("place 1", x, 0, 1, 0);
        CHECKS.dueThrow("place 2", x, 0, 2, 2);
        CHECKS.dueThrow("place -1", x, 0, -1, 2);
        CHECKS.dueThrow("place least", x, 0, Integer.MIN_VALUE, 2);
        x.put(0, 1, -5);
        due("element(0, 1)", x.element(0, 1), -5);
    }

    private static void told(String name, OnlyInDisguise x, int d, int... elements) {
        for (int i = 0; i < elements.length; i++) {
            due(name + ", " + i, x.element(d, i), elements[i]);
        }
    }

    private static void copying() {
        OnlyInDisguise x = new OnlyInDisguise();
        Checks.fill(x, 0, 1, 1, 2, 3, 4, 5);
        Checks.fill(x, 1, 1, 0, 0, 0);
        due("two of them", x.copy(0, 3, 1, 1, 2), 2);
        told("come", x, 1, 0, 4, 5);
        told("and stay", x, 0, 1, 2, 3, 4, 5);
        due("upward over themselves", x.copy(0, 0, 0, 1, 4), 4);
        told("upward", x, 0, 1, 1, 2, 3, 4);
        due("downward over themselves", x.copy(0, 1, 0, 0, 4), 4);
        told("downward", x, 0, 1, 2, 3, 4, 4);
        due("none of them", x.copy(0, 0, 1, 0, 0), 0);
        due("none from the end", x.copy(0, 5, 1, 3, 0), 0);
        due("none from behind the end", x.copy(0, 6, 1, 0, 0), -13);
        due("none to behind the end", x.copy(0, 0, 1, 4, 0), -13);
        due("one too many from", x.copy(0, 3, 1, 0, 3), -13);
        due("one too many to", x.copy(0, 0, 1, 1, 3), -13);
        due("from below 0", x.copy(0, -1, 1, 0, 1), -13);
        due("to below 0", x.copy(0, 0, 1, -1, 1), -13);
        due("n below 0", x.copy(0, 0, 1, 0, -1), -13);
        due("n far below 0", x.copy(0, 3, 1, 3, Integer.MIN_VALUE), -13);
        due("n far above", x.copy(0, 1, 1, 1, Integer.MAX_VALUE), -13);
        due("from far above", x.copy(0, Integer.MAX_VALUE, 1, 0, 2), -13);
        told("nothing changed", x, 1, 0, 4, 5);
        x.row(2, 0, 3);
        due("another sort", x.copy(0, 0, 2, 0, 9), -12);
        x.keep(3, 1, 0, 0);
        due("to one", x.copy(0, 0, 3, 0, 9), -12);
        due("from one", x.copy(3, 0, 0, 0, 9), -12);
        due("to one from bytes", x.copy(2, 0, 3, 0, 0), -12);
        due("from one to bytes", x.copy(3, 0, 2, 0, 0), -12);
        due("from nothing", x.copy(4, 0, 0, 0, 9), -11);
        due("to nothing", x.copy(0, 0, 4, 0, 9), -11);
        due("from one to nothing", x.copy(3, 0, 4, 0, 9), -11);
        due("from nothing to one", x.copy(4, 0, 3, 0, 9), -11);
        due("shelf 8", x.copy(8, 0, 4, 0, 9), -1);
        due("shelf -1", x.copy(4, 0, -1, 0, 9), -1);
    }

    private static void costsAndFailures() {
        OnlyInDisguise x = new OnlyInDisguise();
        int[][] costs = {{4, 4}, {1, 1}, {6, 6}, {1, 7}, {0, 0}, {8, 8}, {1, 1}, {1, 1}};
        int[] failures = {6, -15, 106, -15, 106, 6, -15, 299};
        for (int k = 0; k < 8; k++) {
            x.keep(0, 1, k, 0);
            due("cost of kind " + k + ", figure 0", x.cost(0), costs[k][0]);
            due("toss of kind " + k + ", figure 0", x.toss(0), -15);
            x.keep(0, 1, k, 6);
            due("cost of kind " + k + ", figure 6", x.cost(0), costs[k][1]);
            due("toss of kind " + k + ", figure 6", x.toss(0), failures[k]);
            due("he stays", x.cost(0), costs[k][1]);
        }
        due("cost(8)", x.cost(8), -1);
        due("cost(-1)", x.cost(-1), -1);
        due("toss(8)", x.toss(8), -1);
        due("toss(-1)", x.toss(-1), -1);
        due("cost of nothing", x.cost(1), -11);
        due("toss of nothing", x.toss(1), -11);
        x.row(1, 0, 1);
        due("cost of a row", x.cost(1), -12);
        due("toss of a row", x.toss(1), -12);
    }
}
