/** Promises 29 to 34: told lists, years by seeds, the image, what is told. */
public final class ListsTest {
    private static final Checks CHECKS = new Checks("ListsTest");

    public static void main(String[] args) {
        forgeries();
        judged();
        refusals();
        yearsBySeeds();
        images();
        counts();
        CHECKS.end();
    }

    private static void due(String call, long got, long want) {
        CHECKS.due(call, got, want);
    }

    private static int forgedBy(OnlyInDisguise x, int sort, int... told) {
        Checks.fill(x, 0, sort, told);
        return x.forged(0);
    }

    private static void forgeries() {
        OnlyInDisguise x = Checks.with("p009;p009;p009;h02;h30;");
        due("all so", forgedBy(x, 0, 2, 9, 9, 0, 9), -4);
        due("all so as ints", forgedBy(x, 2, 2, 9, 9, 0, 9), -4);
        due("some told", forgedBy(x, 1, 2, 9), -4);
        due("nothing told", forgedBy(x, 0), -4);
        due("another holds it", forgedBy(x, 0, 1, 9, 9, 0, 9), 0);
        due("nobody holds it", forgedBy(x, 0, 2, 0, 9, 1, 9), 1);
        due("it is held", forgedBy(x, 0, 2, 9, 9, 9), 3);
        due("-4 is not 9", forgedBy(x, 0, 2, -4), 1);
        due("no such office", forgedBy(x, 0, 2, 9, 9, 0, 9, 9), 5);
        due("the least is not skipped", forgedBy(x, 0, 2, -128), 1);
    }

    private static int judgedBy(OnlyInDisguise x, int sort, int... told) {
        Checks.fill(x, 0, sort, told);
        return x.judge(0);
    }

    private static void judged() {
        OnlyInDisguise x = Checks.with("p009;p009;p709;h00;h11;h42;k014;k117;");
        due("all so", judgedBy(x, 0, 3, 2, 1, 1), -4);
        due("some are skipped", judgedBy(x, 0, 3, -128, 1), -4);
        due("shorts are skipped", judgedBy(x, 1, -32768, 2), -4);
        due("ints are skipped", judgedBy(x, 2, Integer.MIN_VALUE, 2), -4);
        due("that of bytes is not", judgedBy(x, 2, -128, 2), 0);
        due("the first is not so", judgedBy(x, 0, 2, 2, 1), 0);
        due("the third is not so", judgedBy(x, 0, 3, 2, 2, 9), 2);
        due("nothing told", judgedBy(x, 0), -4);
        due("nothing changed", x.count(1), 0);
        x.row(0, 0, 100);
        for (int i = 0; i < 100; i++) {
            x.put(0, i, i == 0 ? 3 : i == 1 ? 2 : 1);
        }
        due("99 days on", x.judge(0), -4);
        x.put(0, 99, 0);
        due("the last is not so", x.judge(0), 99);
    }

    private static void refusals() {
        OnlyInDisguise x = new OnlyInDisguise();
        due("forged(-1)", x.forged(-1), -1);
        due("forged(8)", x.forged(8), -1);
        due("forged by nothing", x.forged(0), -11);
        due("judge(-1)", x.judge(-1), -1);
        due("judge(8)", x.judge(8), -1);
        due("judge by nothing", x.judge(0), -11);
        x.keep(0, 1, 0, 0);
        due("forged by one", x.forged(0), -12);
        due("judge by one", x.judge(0), -12);
    }

    private static void yearsBySeeds() {
        OnlyInDisguise x = Checks.with("p209;h20;");
        // A tailor of 0 in office 2 falls, if the third costume is above 2 or he is known 5 or more.
        int[][] due = {{6, 12345, 1, 5}, {20, -7, 6, 14}, {1, 1, 0, 1}, {4, Integer.MIN_VALUE, 1, 3}, {3, 0, 1, 2}};
        for (int[] row : due) {
            due("years(" + row[0] + ", " + row[1] + ", 0)", x.years(row[0], row[1], 0), row[2]);
            due("years(" + row[0] + ", " + row[1] + ", 1)", x.years(row[0], row[1], 1), row[3]);
        }
        due("nothing changed: known", x.one(0, 2), 0);
        due("nothing changed: costume", x.office(2, 0), 2);
        due("nothing changed: day", x.count(1), 0);
        x.empties(2);
        due("FALLS that were", Checks.tell(x, 0, "h20;k099;d01;h20;"), 4);
        due("do not count", x.years(6, 12345, 1), 5);
        OnlyInDisguise y = Checks.with("p709;p709;p609;h00;h11;h22;");
        due("two stay, 20 times", y.years(20, 5, 0), 40);
        due("one falls, 20 times", y.years(20, 5, 1), 20);
        due("n 0", x.years(0, 1, 0), -1);
        due("n 21", x.years(21, 1, 0), -1);
        due("n -1", x.years(-1, 1, 0), -1);
        due("what 2", x.years(1, 1, 2), -1);
        due("what -1", x.years(1, 1, -1), -1);
    }

    private static void images() {
        OnlyInDisguise x = Checks.with("p013;p229;h20;o27;k015;k131;d02;");
        due("no image", x.restore(), -3);
        due("image()", x.image(), 2);
        x.row(0, 0, 4);
        due("days go on", x.days(5), 1);
        x.keep(1, 1, 0, 4);
        x.comes(1, 2);
        x.holds(4, 2);
        x.wears(2, 1);
        x.knows(1, 2);
        x.marries(0, 9);
        due("restore()", x.restore(), 2);
        due("people", x.count(0), 2);
        due("day", x.count(1), 2);
        due("falls", x.count(2), 1);
        due("held", x.count(3), 0);
        due("known", x.count(4), 21 + 25);
        due("costume", x.office(2, 0), 7);
        due("mate", x.one(0, 3), 3);
        due("kind", x.one(1, 0), 2);
        due("figure", x.one(1, 1), 2);
        due("shelves stay: a row", x.element(0, 3), 0);
        due("shelves stay: one", x.cost(1), 4);
        x.days(9);
        x.knows(0, 50);
        due("restored once more", x.restore(), 2);
        due("known as then", x.one(0, 2), 21);
        x.days(3);
        due("taken anew", x.image(), 5);
        x.days(3);
        due("restored anew", x.restore(), 5);
    }

    private static void counts() {
        OnlyInDisguise x = Checks.with("p009;p009;p009;h20;h41;k105;k206;");
        due("people", x.count(0), 3);
        due("day", x.count(1), 0);
        due("falls", x.count(2), 0);
        due("held", x.count(3), 20);
        due("known", x.count(4), 11);
        x.knows(0, 20);
        x.days(1);
        due("a day more", x.count(1), 1);
        due("one has fallen", x.count(2), 1);
        due("held by one", x.count(3), 16);
        due("known of all", x.count(4), 23 + 8 + 4);
        due("count(5)", x.count(5), -1);
        due("count(-1)", x.count(-1), -1);
    }
}
