/**
 * The boundaries of PEOPLE, OFFICES and KINDS and of the calls that change
 * them, a test for each sentence that names one (promises 1 to 11 and 23).
 */
public final class PeopleBoundsTest {
    private static final Checks CHECKS = new Checks("PeopleBoundsTest");
    private static final String EIGHT = "p009;p009;p009;p009;p009;p009;p009;p009;";

    public static void main(String[] args) {
        nobody();
        eightAtMost();
        kindsAndFigures();
        knownAtFirst();
        knownToNinetyNine();
        mates();
        costumesAtFirst();
        costumesToNine();
        oneOfficeAtMost();
        heldByHimself();
        emptiedAtOnce();
        ministersAndHonestOnesShow();
        tailorsShow();
        widowsShow();
        dogsShow();
        enemiesShow();
        childrenShow();
        sweepersShow();
        bears();
        forgets();
        commonOffices();
        chains();
        CHECKS.end();
    }

    private static void due(String call, long got, long want) {
        CHECKS.due(call, got, want);
    }

    // "Nobody, OFFICES empty."
    private static void nobody() {
        OnlyInDisguise x = new OnlyInDisguise();
        due("PEOPLE at first", x.count(0), 0);
        due("DAY at first", x.count(1), 0);
        due("FALLS at first", x.count(2), 0);
        due("HELD at first", x.count(3), 0);
        due("KNOWN of nobody", x.count(4), 0);
        for (int p = 0; p < 8; p++) {
            due("one " + p + " of nobody", x.one(p, 0), -1);
            due("nobody " + p + " shows", x.shows(p, 0), -1);
            due("nobody " + p + " holds", x.holds(0, p), -1);
        }
        due("still empty", x.count(3), 0);
        for (int f = 0; f < 5; f++) {
            due("nobody held " + f, x.empties(f), -3);
        }
    }

    // "PEOPLE 0 .. 7 as they come (8 at most)"
    private static void eightAtMost() {
        OnlyInDisguise x = new OnlyInDisguise();
        x.keep(0, 1, 4, 3);
        for (int p = 0; p < 8; p++) {
            due("not there ahead of it: " + p, x.one(p, 0), -1);
            due("comes: " + p, x.comes(0, 9), p);
            due("there: " + p, x.one(p, 0), 4);
            due("PEOPLE", x.count(0), p + 1);
        }
        due("a ninth", x.comes(0, 9), -2);
        due("a tenth", x.comes(0, 9), -2);
        due("eight", x.count(0), 8);
        due("no one 8", x.one(8, 0), -1);
        due("the eighth holds", x.holds(4, 7), -4);
        due("held by the eighth", x.office(4, 1), 7);
    }

    // "KINDS: 0 .. 7", "FIGURE (0 .. 9)"
    private static void kindsAndFigures() {
        for (int k = 0; k < 8; k++) {
            for (int figure = 0; figure < 10; figure++) {
                OnlyInDisguise x = new OnlyInDisguise();
                due("KIND " + k + ", FIGURE " + figure, x.keep(0, 1, k, figure), 0);
                x.comes(0, 9);
                due("his KIND", x.one(0, 0), k);
                due("his FIGURE", x.one(0, 1), figure);
            }
        }
    }

    // "KNOWN (0 .. 99; 0 at first)"
    private static void knownAtFirst() {
        OnlyInDisguise x = Checks.with("p009;k099;");
        x.image();
        x.keep(0, 1, 0, 0);
        due("comes", x.comes(0, 9), 1);
        due("KNOWN at first", x.one(1, 2), 0);
        x.knows(1, 50);
        x.restore();
        due("comes behind the IMAGE", x.comes(0, 9), 1);
        due("KNOWN at first once more", x.one(1, 2), 0);
        due("without OFFICE at first", x.one(1, 4), -4);
    }

    private static void knownToNinetyNine() {
        OnlyInDisguise x = Checks.with("p009;p009;");
        due("0 becomes 99", x.knows(1, 99), 0);
        due("100 is refused", x.knows(1, 100), -1);
        due("99 behind it", x.one(1, 2), 99);
        due("99 becomes 0", x.knows(1, 0), 99);
        due("-1 is refused", x.knows(1, -1), -1);
        due("0 behind it", x.one(1, 2), 0);
        due("256 is refused", x.knows(1, 256), -1);
        due("the other's all the while", x.one(0, 2), 0);
    }

    // "MATE (one of PEOPLE, 0 .. 7, who need not be there, or 9 none ..)"
    private static void mates() {
        int[] can = {0, 1, 6, 7, 9};
        int[] canNot = {-1, 8, 10, 256, Integer.MIN_VALUE, Integer.MAX_VALUE};
        OnlyInDisguise x = Checks.with("p009;");
        x.keep(0, 1, 0, 0);
        int before = 9;
        for (int mate : can) {
            due("marries " + mate, x.marries(0, mate), before);
            before = mate;
            for (int not : canNot) {
                due("marries " + not, x.marries(0, not), -1);
                due("MATE behind it", x.one(0, 3), mate);
                due("comes with " + not, x.comes(0, not), -1);
                due("PEOPLE behind it", x.count(0), 1);
            }
        }
        for (int i = 0; i < can.length; i++) {
            due("comes with " + can[i], x.comes(0, can[i]), i + 1);
            due("his MATE", x.one(i + 1, 3), can[i]);
        }
    }

    // "OFFICES 0 .. 4: each in a COSTUME (0 .. 9; its number at first)"
    private static void costumesAtFirst() {
        OnlyInDisguise x = new OnlyInDisguise();
        for (int f = 0; f < 5; f++) {
            due("COSTUME of " + f, x.office(f, 0), f);
            due("nobody holds " + f, x.office(f, 1), -4);
            due("not COMMON: " + f, x.office(f, 2), 0);
        }
        due("no OFFICE 5", x.office(5, 0), -1);
        due("no OFFICE -1", x.office(-1, 0), -1);
    }

    private static void costumesToNine() {
        OnlyInDisguise x = new OnlyInDisguise();
        for (int f = 0; f < 5; f++) {
            due("the first one of " + f, x.wears(f, 9), f);
            due("9 becomes 0", x.wears(f, 0), 9);
            due("10 is refused", x.wears(f, 10), -1);
            due("-1 is refused", x.wears(f, -1), -1);
            due("COSTUME behind it", x.office(f, 0), 0);
        }
        due("OFFICE 5 is refused", x.wears(5, 1), -1);
        due("OFFICE -1 is refused", x.wears(-1, 1), -1);
        due("the last one's behind it", x.office(4, 0), 0);
        due("the first one's behind it", x.office(0, 0), 0);
    }

    // "HELD by one of PEOPLE, who HOLDS one at most"
    private static void oneOfficeAtMost() {
        OnlyInDisguise x = Checks.with("p009;p009;");
        for (int f = 0; f < 5; f++) {
            due("he moves to " + f, x.holds(f, 1), -4);
            due("that alone is HELD", x.count(3), 1 << f);
            due("he HOLDS it", x.one(1, 4), f);
        }
        due("back to the first", x.holds(0, 1), -4);
        due("that alone", x.count(3), 1);
        due("another in his place", x.holds(0, 0), 1);
        due("he is without", x.one(1, 4), -4);
        due("the other has it", x.one(0, 4), 0);
        due("into the other's place from his own", x.holds(4, 1), -4);
        due("both are HELD", x.count(3), 17);
        due("who held it is told", x.holds(0, 1), 0);
        due("his own is empty", x.count(3), 1);
        due("the one put out", x.one(0, 4), -4);
    }

    // "(and no other): who did": himself
    private static void heldByHimself() {
        OnlyInDisguise x = Checks.with("p009;p009;h31;");
        due("he did himself", x.holds(3, 1), 1);
        due("he still HOLDS it", x.one(1, 4), 3);
        due("that alone is HELD", x.count(3), 8);
    }

    // "An OFFICE is empty: who HELD it. .. -3 it is."
    private static void emptiedAtOnce() {
        OnlyInDisguise x = Checks.with(EIGHT + "h00;h47;");
        due("the first of PEOPLE HELD it", x.empties(0), 0);
        due("it is empty", x.empties(0), -3);
        due("the last of PEOPLE HELD it", x.empties(4), 7);
        due("it is empty, too", x.empties(4), -3);
        due("OFFICE 5", x.empties(5), -1);
        due("OFFICE -1", x.empties(-1), -1);
        due("nobody HOLDS any", x.count(3), 0);
        due("the last is without", x.one(7, 4), -4);
    }

    /** SHOWS by COSTUMES 0 .. 9 on the next DAY. */
    private static void shows(String text, int... want) {
        OnlyInDisguise x = Checks.with(text);
        for (int k = 0; k < 10; k++) {
            due("'" + text + "' shows by " + k, x.shows(0, k), want[k]);
        }
        due("'" + text + "' shows by 10", x.shows(0, 10), -1);
        due("'" + text + "' shows by -1", x.shows(0, -1), -1);
    }

    private static void ministersAndHonestOnesShow() {
        for (String day : new String[] {"", "d01;"}) {
            shows("p009;" + day, 3, 3, 3, 3, 3, 3, 3, 3, 3, 3);
            shows("p099;" + day, 3, 3, 3, 3, 3, 3, 3, 3, 3, 3);
            shows("p109;" + day, 6, 6, 6, 6, 6, 6, 6, 6, 6, 6);
            shows("p199;" + day, 6, 6, 6, 6, 6, 6, 6, 6, 6, 6);
        }
    }

    // "1 and a third, cut, of how far k is from his FIGURE"
    private static void tailorsShow() {
        shows("p209;", 1, 1, 1, 2, 2, 2, 3, 3, 3, 4);
        shows("p229;", 1, 1, 1, 1, 1, 2, 2, 2, 3, 3);
        shows("p259;", 2, 2, 2, 1, 1, 1, 1, 1, 2, 2);
        shows("p269;", 3, 2, 2, 2, 1, 1, 1, 1, 1, 2);
        shows("p299;", 4, 3, 3, 3, 2, 2, 2, 1, 1, 1);
    }

    // "FIGURE more than an HONEST one on odd DAYS, else as one", on the next DAY
    private static void widowsShow() {
        shows("p309;", 6, 6, 6, 6, 6, 6, 6, 6, 6, 6);
        shows("p319;", 7, 7, 7, 7, 7, 7, 7, 7, 7, 7);
        shows("p399;", 15, 15, 15, 15, 15, 15, 15, 15, 15, 15);
        shows("p399;d01;", 6, 6, 6, 6, 6, 6, 6, 6, 6, 6);
        shows("p399;d02;", 15, 15, 15, 15, 15, 15, 15, 15, 15, 15);
        OnlyInDisguise x = Checks.with("p399;d60;d60;d60;d60;d60;d60;d60;d60;d60;d60;d60;d60;d60;d60;d60;d60;d38;");
        due("on DAY 999", x.shows(0, 0), 15);
        x.days(1);
        due("on DAY 1000", x.shows(0, 0), 6);
    }

    // "as a TAILOR, 0 if k is his FIGURE"
    private static void dogsShow() {
        shows("p409;", 0, 1, 1, 2, 2, 2, 3, 3, 3, 4);
        shows("p459;", 2, 2, 2, 1, 1, 0, 1, 1, 2, 2);
        shows("p499;", 4, 3, 3, 3, 2, 2, 2, 1, 1, 0);
    }

    // "as a MINISTER, k less (1 at least)"
    private static void enemiesShow() {
        shows("p509;", 3, 2, 1, 1, 1, 1, 1, 1, 1, 1);
        shows("p599;", 3, 2, 1, 1, 1, 1, 1, 1, 1, 1);
    }

    // "9, if k is below FIGURE, else as an HONEST one"
    private static void childrenShow() {
        shows("p609;", 6, 6, 6, 6, 6, 6, 6, 6, 6, 6);
        shows("p619;", 9, 6, 6, 6, 6, 6, 6, 6, 6, 6);
        shows("p659;", 9, 9, 9, 9, 9, 6, 6, 6, 6, 6);
        shows("p699;", 9, 9, 9, 9, 9, 9, 9, 9, 9, 6);
    }

    private static void sweepersShow() {
        shows("p709;", 0, 0, 0, 0, 0, 0, 0, 0, 0, 0);
        shows("p799;", 0, 0, 0, 0, 0, 0, 0, 0, 0, 0);
    }

    /** Of each KIND, by FIGURES 0, 1 and 9. */
    private static void each(int what, int[] by0, int[] by1, int[] by9) {
        for (int k = 0; k < 8; k++) {
            due("KIND " + k + ", FIGURE 0, what " + what, Checks.with("p" + k + "09;").one(0, what), by0[k]);
            due("KIND " + k + ", FIGURE 1, what " + what, Checks.with("p" + k + "19;").one(0, what), by1[k]);
            due("KIND " + k + ", FIGURE 9, what " + what, Checks.with("p" + k + "99;").one(0, what), by9[k]);
        }
    }

    // BEARS: a CHILD "half an HONEST one's, cut"
    private static void bears() {
        each(5, new int[] {20, 15, 20, 15, 40, 20, 7, 99}, new int[] {20, 15, 21, 15, 42, 22, 7, 99},
            new int[] {20, 15, 29, 15, 58, 38, 7, 99});
    }

    // FORGETS: an ENEMY FIGURE
    private static void forgets() {
        each(6, new int[] {2, 1, 3, 0, 3, 0, 1, 9}, new int[] {2, 1, 3, 0, 3, 1, 1, 9},
            new int[] {2, 1, 3, 0, 3, 9, 1, 9});
    }

    // "COMMON, if two OFFICES or more that are HELD have it"
    private static void commonOffices() {
        OnlyInDisguise x = Checks.with("p709;p709;p709;p709;p709;o09;o19;o29;o39;o49;");
        for (int held = 0; held < 5; held++) {
            for (int f = 0; f < 5; f++) {
                due("of " + held + " HELD, OFFICE " + f, x.office(f, 2), held < 2 ? 0 : 1);
            }
            x.holds(held, held);
        }
        due("all five are HELD", x.office(4, 2), 1);
        x.empties(0);
        x.empties(1);
        x.empties(2);
        due("two are HELD, one of them", x.office(4, 2), 1);
        due("two are HELD, an empty one", x.office(0, 2), 1);
        x.empties(3);
        due("one is HELD, itself", x.office(4, 2), 0);
        due("one is HELD, an empty one", x.office(0, 2), 0);
        x.holds(0, 0);
        x.wears(0, 8);
        due("two are HELD, in two COSTUMES", x.office(4, 2), 0);
        due("two are HELD, in two COSTUMES", x.office(0, 2), 0);
    }

    // "each once (one himself 1; who is not there ends it)"
    private static void chains() {
        due("his own MATE", Checks.with("p000;").one(0, 7), 1);
        due("without a MATE", Checks.with("p009;").one(0, 7), 1);
        due("the first who is not there", Checks.with("p002;p009;").one(0, 7), 1);
        due("the last who is there", Checks.with("p001;p009;").one(0, 7), 2);
        due("a MATE 7 who is not there", Checks.with("p001;p007;").one(0, 7), 2);
        due("a MATE 7 who is there", Checks.with("p007;p009;p009;p009;p009;p009;p009;p009;").one(0, 7), 2);
        OnlyInDisguise ring = Checks.with("p001;p002;p003;p004;p005;p006;p007;p000;");
        for (int p = 0; p < 8; p++) {
            due("all eight from " + p, ring.one(p, 7), 8);
        }
        ring.marries(7, 6);
        due("all eight, the last two a ring", ring.one(0, 7), 8);
        due("the last two", ring.one(7, 7), 2);
        ring.marries(7, 7);
        due("the last his own MATE", ring.one(0, 7), 8);
        due("he himself", ring.one(7, 7), 1);
        ring.marries(3, 9);
        due("four to the one without", ring.one(0, 7), 4);
        due("from the one without", ring.one(3, 7), 1);
    }
}
