/**
 * The boundaries of told rows, of two who speak, of odds and of years, a test
 * for each sentence that names one (promises 24 to 31).
 */
public final class ToldBoundsTest {
    private static final Checks CHECKS = new Checks("ToldBoundsTest");
    private static final String EIGHT = "p009;p009;p009;p009;p009;p009;p009;p009;";
    private static final int[] LEAST = {-128, -32768, Integer.MIN_VALUE};
    private static final int ALL_KINDS = 255;
    private static final int ALL_FIGURES = 1023;

    public static void main(String[] args) {
        nothingTold();
        kindsOneByOne();
        figuresOneByOne();
        leastIsSkipped();
        nextToLeastIsNot();
        aHundredDaysOfKnown();
        numbersThatNobodyIsKnown();
        heldOrEmpty();
        aHundredDaysOfHeld();
        firstAndLastWhoHeld();
        twoByTens();
        twoTheFirstPair();
        twoFromOneToThirty();
        twoWithoutRest();
        scandalsOnNoDay();
        scandalsOnSevenDays();
        scandalsAheadOfTheDay();
        scandalsByOdds();
        meanOfNobodyAndOfAll();
        forgedSizes();
        forgedNumbers();
        judgedSizes();
        judgedNumbers();
        yearsOneToTwenty();
        yearsOfFifteenDays();
        yearsOfNobody();
        CHECKS.end();
    }

    private static void due(String call, long got, long want) {
        CHECKS.due(call, got, want);
    }

    private static int kinds(OnlyInDisguise x, int p, int sort, int... told) {
        Checks.fill(x, 0, sort, told);
        return x.whatIs(0, p, 0);
    }

    private static int figures(OnlyInDisguise x, int p, int sort, int... told) {
        Checks.fill(x, 0, sort, told);
        return x.whatIs(0, p, 1);
    }

    private static int held(OnlyInDisguise x, int f, int sort, int... told) {
        Checks.fill(x, 0, sort, told);
        return x.whoHeld(0, f);
    }

    // A ROW of 0 elements tells nothing, so all of it is so.
    private static void nothingTold() {
        OnlyInDisguise x = Checks.with(EIGHT + "h00;");
        for (int sort = 0; sort < 3; sort++) {
            due("KINDS by nothing", kinds(x, 7, sort), ALL_KINDS);
            due("FIGURES by nothing", figures(x, 7, sort), ALL_FIGURES);
            due("who held by nothing", held(x, 4, sort), 255);
            due("forged by nothing", x.forged(0), -4);
            due("judged by nothing", x.judge(0), -4);
            due("KINDS by what is skipped", kinds(x, 7, sort, LEAST[sort]), ALL_KINDS);
            due("FIGURES by what is skipped", figures(x, 7, sort, LEAST[sort], LEAST[sort]), ALL_FIGURES);
            due("who held by what is skipped", held(x, 4, sort, LEAST[sort]), 255);
            due("judged by what is skipped", x.judge(0), -4);
        }
        due("who held of nobody", held(new OnlyInDisguise(), 0, 0), 0);
    }

    // "KINDS (bits) of him": on two DAYS in OFFICE, FIGURE 5, COSTUME 1
    private static void kindsOneByOne() {
        OnlyInDisguise x = Checks.with("p059;h00;o01;");
        due("MINISTER", kinds(x, 0, 0, 0, 3, 6), 1);
        due("HONEST", kinds(x, 0, 0, 0, 6, 12), 2);
        due("TAILOR, ENEMY and DOG", kinds(x, 0, 0, 0, 2, 4), 4 | 16 | 32);
        due("WIDOW", kinds(x, 0, 0, 0, 11, 17), 8);
        due("CHILD, who falls", kinds(x, 0, 0, 0, 9, 8), 64);
        due("SWEEPER", kinds(x, 0, 0, 0, 0, 0), 128);
        x.knows(0, 24);
        due("TAILOR, who falls", kinds(x, 0, 0, 24, 26, 23), 4);
        due("DOG, who does not", kinds(x, 0, 0, 24, 26, 28), 16 | 32);
        x.knows(0, 28);
        due("ENEMY, who falls", kinds(x, 0, 0, 28, 30, 25), 32);
        due("DOG alone", kinds(x, 0, 0, 28, 30, 32), 16);
        due("none", kinds(x, 0, 0, 28, 30, 33), 0);
        due("all of them now", kinds(x, 0, 0, 28), ALL_KINDS);
        due("none of them now", kinds(x, 0, 0, 29), 0);
    }

    // "FIGURES (bits 0 .. 9)"
    private static void figuresOneByOne() {
        OnlyInDisguise x = Checks.with("p359;h00;");
        for (int figure = 0; figure < 10; figure++) {
            due("a WIDOW of " + figure, figures(x, 0, 0, 0, 6 + figure), 1 << figure);
        }
        due("a WIDOW of 10", figures(x, 0, 0, 0, 16), 0);
        due("a WIDOW of -1", figures(x, 0, 0, 0, 5), 0);
        OnlyInDisguise y = Checks.with("p559;k050;");
        for (int figure = 0; figure < 10; figure++) {
            due("an ENEMY of " + figure, figures(y, 0, 0, 50, 50 - figure), 1 << figure);
        }
        due("an ENEMY of 10", figures(y, 0, 0, 50, 40), 0);
        due("his FIGURE behind it", y.one(0, 1), 5);
        due("his KIND behind it", y.one(0, 0), 5);
    }

    // "(the least number of the SORT is skipped)", wherever it stands
    private static void leastIsSkipped() {
        OnlyInDisguise x = Checks.with("p009;p009;h00;");
        for (int sort = 0; sort < 3; sort++) {
            int least = LEAST[sort];
            due("KINDS, first skipped", kinds(x, 0, sort, least, 3), 1 | 32);
            due("KINDS, second skipped", kinds(x, 0, sort, 0, least, 6), 1 | 32);
            due("KINDS, last skipped", kinds(x, 0, sort, 0, 3, least), 1 | 32);
            due("KINDS, a skipped DAY passes", kinds(x, 0, sort, 0, least, 3), 0);
            due("HELD, first skipped", held(x, 0, sort, least, 1), 3);
            due("HELD, last skipped", held(x, 0, sort, 1, least), 3);
            Checks.fill(x, 1, sort, least, 1, least, least, least, least, 1, 0, least);
            due("JUDGED, some skipped", x.judge(1), -4);
            Checks.fill(x, 1, sort, least, 1, least, least, least, least, 0);
            due("JUDGED, behind those skipped", x.judge(1), 6);
            Checks.fill(x, 1, sort, 0, least);
            due("FORGED skips none", x.forged(1), 1);
            due("who is told by " + least, held(x, 0, sort, least + 1), 0);
        }
    }

    private static void nextToLeastIsNot() {
        OnlyInDisguise x = Checks.with("p009;h00;");
        int[][] others = {{-127, 127, 0, -1}, {-32767, 32767, -128, -1}, {Integer.MIN_VALUE + 1, -32768, -128, -1}};
        for (int sort = 0; sort < 3; sort++) {
            for (int other : others[sort]) {
                due("KINDS by " + other, kinds(x, 0, sort, other, 3), other == 0 ? 1 | 32 : 0);
                due("FIGURES by " + other, figures(x, 0, sort, other, 3), other == 0 ? ALL_FIGURES : 0);
                due("HELD by " + other, held(x, 0, sort, other, 1), 0);
                due("JUDGED by " + other, x.judge(0), 0);
            }
        }
        due("what is put in keeps its lowest bits: 128", kinds(x, 0, 0, 128, 3), 1 | 32);
        due("what is put in keeps its lowest bits: 256", kinds(x, 0, 0, 256, 3), 1 | 32);
        due("shorts keep 128", kinds(x, 0, 1, 128, 3), 0);
        due("shorts: 32768", kinds(x, 0, 1, 32768, 3), 1 | 32);
        due("ints keep 32768", kinds(x, 0, 2, 32768, 3), 0);
        due("ints keep 65536", kinds(x, 0, 2, 65536, 3), 0);
    }

    /** A ROW of 100 bytes on SHELF 0, so that element i is one of two numbers. */
    private static void hundred(OnlyInDisguise x, int first, int step) {
        x.row(0, 0, 100);
        for (int i = 0; i < 100; i++) {
            x.put(0, i, first + i * step);
        }
    }

    // 100 elements at most: behind 0 .. 99 DAYS
    private static void aHundredDaysOfKnown() {
        OnlyInDisguise x = Checks.with("p009;k099;");
        hundred(x, 99, -1);
        due("who forget 1 a DAY, 99 DAYS", x.whatIs(0, 0, 0), 2 | 64);
        x.put(0, 99, 1);
        due("the last is not so", x.whatIs(0, 0, 0), 0);
        x.put(0, 99, -128);
        due("the last is skipped", x.whatIs(0, 0, 0), 2 | 64);
        OnlyInDisguise y = Checks.with("p509;k099;");
        hundred(y, 99, -1);
        due("an ENEMY of 1", y.whatIs(0, 0, 1), 2);
        y.put(0, 99, -1);
        due("none, for the last", y.whatIs(0, 0, 1), 0);
    }

    private static void numbersThatNobodyIsKnown() {
        OnlyInDisguise x = Checks.with("p109;h00;k099;");
        due("99 is most", kinds(x, 0, 1, 99, 99), 1 | 2 | 4 | 8 | 16 | 32 | 64 | 128);
        due("not 105", kinds(x, 0, 1, 99, 105), 0);
        x.empties(0);
        x.knows(0, 0);
        due("0 is least", kinds(x, 0, 1, 0, 0), ALL_KINDS);
        due("not -1", kinds(x, 0, 1, 0, -1), 0);
    }

    // "1 an OFFICE is HELD, 0 it is empty"
    private static void heldOrEmpty() {
        OnlyInDisguise x = Checks.with("p009;p009;p709;k117;h12;");
        due("HELD now by each", held(x, 0, 0, 1), 7);
        due("empty now by none", held(x, 0, 0, 0), 0);
        due("2 is neither", held(x, 0, 0, 2), 0);
        due("-1 is neither", held(x, 0, 0, -1), 0);
        due("257 is 1 in a byte", held(x, 0, 0, 257), 7);
        due("257 is not in a short", held(x, 0, 1, 257), 0);
        due("empty behind a DAY", held(x, 0, 0, 1, 0), 2);
        due("HELD behind a DAY", held(x, 0, 0, 1, 1), 5);
        due("empty behind 7", held(x, 0, 0, 1, 1, 1, 1, 1, 1, 1, 0), 1);
        due("HELD behind 7", held(x, 0, 0, 1, 1, 1, 1, 1, 1, 1, 1), 4);
        due("2 behind a DAY is neither", held(x, 0, 0, 1, 2), 0);
    }

    private static void aHundredDaysOfHeld() {
        OnlyInDisguise x = Checks.with("p709;p009;");
        hundred(x, 1, 0);
        due("99 DAYS", x.whoHeld(0, 3), 1);
        x.put(0, 99, 0);
        due("the last is not so", x.whoHeld(0, 3), 0);
        // A DOG of 9, KNOWN 18, bears 58 and shows 1 a DAY.
        OnlyInDisguise y = Checks.with("p499;o08;k018;");
        y.row(0, 0, 41);
        for (int i = 0; i < 40; i++) {
            y.put(0, i, 1);
        }
        due("empty behind 40 DAYS first", y.whoHeld(0, 0), 1);
    }

    // "PEOPLE (bits) who, HOLDING it now (and no other)"
    private static void firstAndLastWhoHeld() {
        OnlyInDisguise x = Checks.with("p709;p009;p009;p009;p009;p009;p009;p709;h07;h10;k117;");
        due("the first and the last stay", held(x, 4, 0, 1, -128, -128, -128, -128, -128, -128, 1), 1 | 128);
        due("one falls at once", held(x, 4, 0, 1, 0), 2);
        due("who HOLDS it now is put out of it", x.office(0, 1), 7);
        due("nobody moves but in mind", x.count(3), 3);
        OnlyInDisguise y = Checks.with("p649;h00;o10;");
        due("he leaves the one in the same COSTUME: not COMMON", held(y, 1, 0, 1, 0), 1);
    }

    private static void two(String text, int n, int want) {
        due("two(0, 1, " + n + ") by '" + text + "'", Checks.with(text).two(0, 1, n), want);
    }

    // "less KNOWN behind them by 10, cut"
    private static void twoByTens() {
        String both = "p009;p709;h00;h11;";
        two(both + "k006;", 1, 11);
        two(both + "k007;", 1, 1);
        two(both + "k011;", 1, 1);
        two(both + "k012;", 1, 11);
        two(both + "k016;", 1, 11);
        two(both + "k017;", 1, 1);
        two("p009;p709;h00;h11;k189;", 1, 11);
        two("p009;p709;h00;h11;k190;", 1, 10);
        two("p009;p709;h00;h11;k198;", 1, 10);
        two("p009;p709;h00;h11;k198;", 2, 11);
        two("p009;p709;h00;h11;k199;", 1, 10);
        two("p009;p709;h00;h11;k199;", 30, 10);
    }

    // "the first pair (10 the one's and the other's)"
    private static void twoTheFirstPair() {
        two("p009;p009;h00;h11;", 1, 11);
        two("p009;p009;h00;h11;k017;", 1, 1);
        two("p009;p009;h00;h11;k117;", 1, 10);
        two("p009;p009;h00;h11;k017;k117;", 1, 0);
        two("p009;p009;h00;h11;k008;k108;", 1, 0);
        OnlyInDisguise x = Checks.with("p009;p009;h00;h11;k117;");
        due("the other way round", x.two(1, 0, 1), 1);
        OnlyInDisguise last = Checks.with(EIGHT + "h47;h06;k617;");
        due("the last two", last.two(6, 7, 1), 1);
        due("the last two the other way round", last.two(7, 6, 1), 10);
    }

    // "the next n DAYS (1 .. 30)": by each DAY that he HOLDS it one more
    private static void twoFromOneToThirty() {
        OnlyInDisguise x = Checks.with("p009;p009;p009;h00;h11;");
        int[] refused = {0, 31, -1, 60, Integer.MAX_VALUE, Integer.MIN_VALUE};
        for (int n : refused) {
            due("two(0, 1, " + n + ")", x.two(0, 1, n), -1);
        }
        due("1", x.two(0, 1, 1), 11);
        due("30", x.two(0, 1, 30), 11);
        due("30 of one without OFFICE", x.two(0, 2, 30), -3);
        due("31 of one without OFFICE", x.two(0, 2, 31), -1);
        // A WIDOW of 9 falls at once, KNOWN 15 for ever; one of 0 on the third DAY.
        two("p399;p709;h00;h11;", 1, 1);
        two("p309;p709;h00;h11;", 1, 11);
        two("p309;p709;h00;h11;", 2, 11);
        two("p309;p709;h00;h11;", 30, 11);
        two("p309;p709;h00;h11;k003;", 30, 1);
        // The ENEMY falls on the 30th DAY; the WIDOW, had she stayed home, follows him then.
        two("p309;p590;h00;h31;k108;", 29, 11);
        two("p309;p590;h00;h31;k108;", 30, 1);
    }

    // "by which neither has more by another choice alone; -4"
    private static void twoWithoutRest() {
        OnlyInDisguise none = Checks.with("p001;p000;h00;h11;o10;k019;k117;");
        due("two(0, 1, 2)", none.two(0, 1, 2), -4);
        due("who is home may follow as a MATE, then", none.two(1, 0, 2), -4);
        due("all as it is", none.count(3), 3);
    }

    private static void odds(String text, int f, int n, int t, long above, long below) {
        OnlyInDisguise x = Checks.with(text);
        String call = "scandals(" + f + ", " + n + ", " + t + ") by '" + text + "'";
        due(call + ", above", x.scandals(f, n, t, 0), above);
        due(call + ", below", x.scandals(f, n, t, 1), below);
    }

    // "n DAYS (0 .. 7)": behind none it is HELD or not
    private static void scandalsOnNoDay() {
        odds("p009;h00;k099;", 0, 0, 2, 1, 1);
        odds("p009;h00;k099;", 4, 0, 2, 0, 1);
        odds("p009;h40;k099;", 4, 0, 20, 1, 1);
        odds("p009;h40;k099;", 4, 1, 20, 0, 1);
        odds("e0;", 0, 7, 20, 0, 1);
    }

    // A SWEEPER KNOWN 64 falls by seven of seven, KNOWN 63 by none.
    private static void scandalsOnSevenDays() {
        odds("p709;h40;k063;", 4, 7, 20, 1, 1);
        odds("p709;h40;k064;", 4, 7, 20, 1279999999L, 1280000000L);
        odds("p709;h40;k064;", 4, 7, 2, 127, 128);
        odds("p709;h40;k064;", 4, 6, 2, 1, 1);
        odds("p709;h40;k069;", 4, 6, 20, 63999999L, 64000000L);
        odds("p709;h40;k094;", 4, 7, 20, 893871739L, 1280000000L);
        odds("p709;h40;k094;", 4, 1, 2, 1, 2);
        odds("p709;h40;k093;", 4, 1, 2, 1, 1);
        odds("p709;h40;k093;", 4, 2, 2, 3, 4);
        odds("p709;h40;k098;", 4, 1, 2, 1, 2);
        odds("p709;h40;k099;", 4, 1, 2, 0, 1);
    }

    // "ahead of it, all who HOLD an OFFICE are KNOWN 5 more"
    private static void scandalsAheadOfTheDay() {
        odds("p009;h00;k011;", 0, 1, 2, 1, 1);
        odds("p009;h00;k012;", 0, 1, 2, 1, 2);
        odds("p009;h00;k016;", 0, 1, 2, 1, 2);
        odds("p009;h00;k017;", 0, 1, 2, 0, 1);
        // One scandal is for all: by one on the first DAY the MATE falls ahead and
        // can follow on the second; by none on the first and one on the second not.
        odds("p001;p009;h10;h01;k009;k112;", 1, 2, 2, 3, 4);
        odds("p001;p009;h10;h01;k009;k112;", 1, 2, 3, 7, 9);
        // Who HOLDS none is KNOWN no more by it: he follows.
        odds("p001;p009;h00;k012;k121;", 0, 1, 2, 1, 1);
        odds("p001;p009;h00;k012;k122;", 0, 1, 2, 1, 2);
    }

    // "with odds 1 in t (2 .. 20)"
    private static void scandalsByOdds() {
        for (int t = 2; t <= 20; t++) {
            odds("p009;h00;k012;", 0, 1, t, t - 1, t);
        }
        OnlyInDisguise x = Checks.with("p009;h00;k012;");
        long refused = 1000000001L;
        due("t 1", x.scandals(0, 1, 1, 0), refused);
        due("t 21", x.scandals(0, 1, 21, 1), refused);
        due("t 0", x.scandals(0, 0, 0, 0), refused);
        due("n 8", x.scandals(0, 8, 2, 0), refused);
        due("n -1", x.scandals(0, -1, 2, 0), refused);
        due("OFFICE 5", x.scandals(5, 1, 2, 0), refused);
        due("OFFICE -1", x.scandals(-1, 1, 2, 0), refused);
        due("part 2", x.scandals(0, 1, 2, 2), refused);
        due("part -1", x.scandals(0, 1, 2, -1), refused);
    }

    private static void mean(String text, long above, long below) {
        OnlyInDisguise x = Checks.with(text);
        due("mean(0) by '" + text + "'", x.mean(0), above);
        due("mean(1) by '" + text + "'", x.mean(1), below);
        due("mean(2)", x.mean(2), 1000000001L);
        due("mean(-1)", x.mean(-1), 1000000001L);
    }

    // "a fraction in least terms (0 by 1 of nobody)"
    private static void meanOfNobodyAndOfAll() {
        mean("e0;", 0, 1);
        mean("p009;", 0, 1);
        mean("p009;k001;", 1, 1);
        mean("p009;k099;", 99, 1);
        mean("p009;p009;", 0, 1);
        mean("p009;p009;k101;", 1, 2);
        mean(EIGHT, 0, 1);
        mean(EIGHT + "k701;", 1, 8);
        mean(EIGHT + "k702;", 1, 4);
        mean(EIGHT + "k708;", 1, 1);
        mean(EIGHT + "k799;", 99, 8);
        mean(EIGHT + "k099;k199;k299;k399;k499;k599;k699;k799;", 99, 1);
        mean("p009;p009;p009;p009;p009;p009;p009;k003;k604;", 1, 1);
        mean("p009;p009;p009;p009;p009;p009;p009;k003;k603;", 6, 7);
    }

    private static void forged(String text, int sort, int want, int... told) {
        OnlyInDisguise x = Checks.with(text);
        Checks.fill(x, 0, sort, told);
        due("forged by " + told.length + " told, '" + text + "'", x.forged(0), want);
    }

    // "the first that is not so (no such OFFICE, too)"
    private static void forgedSizes() {
        forged("p009;h40;", 0, -4);
        forged("p009;h40;", 0, -4, 9);
        forged("p009;h40;", 0, -4, 9, 9, 9, 9);
        forged("p009;h40;", 0, -4, 9, 9, 9, 9, 0);
        forged("p009;h40;", 0, 5, 9, 9, 9, 9, 0, 9);
        forged("p009;h40;", 0, 5, 9, 9, 9, 9, 0, -128);
        forged("p009;h40;", 0, 5, 9, 9, 9, 9, 0, 0, 0);
        forged("p009;h40;", 0, 4, 9, 9, 9, 9, 9);
        forged("p009;h40;", 0, 4, 9, 9, 9, 9, 1, 5);
        forged("p009;h40;", 0, 0, 0, 9, 9, 9, 0);
        forged("p009;h40;", 0, 3, 9, 9, 9, 0, 9);
        OnlyInDisguise x = Checks.with("p009;h40;");
        x.row(0, 0, 100);
        for (int i = 0; i < 100; i++) {
            x.put(0, i, i == 4 ? 0 : 9);
        }
        due("forged by 100 told", x.forged(0), 5);
        forged("e0;", 1, -4, 9, 9, 9, 9, 9);
        forged("e0;", 1, 0, 0);
    }

    // "(9 nobody)"
    private static void forgedNumbers() {
        String seven = EIGHT + "h07;";
        forged(seven, 0, -4, 7);
        forged(seven, 0, 0, 8);
        forged(seven, 0, 0, 6);
        forged(seven, 0, 0, 9);
        forged(seven, 0, 0, -4);
        forged(seven, 0, 1, 7, -4);
        forged(seven, 0, 1, 7, 8);
        forged(seven, 0, 1, 7, 10);
        forged(seven, 0, 1, 7, -1);
        forged(seven, 0, -4, 7 + 256, 9 - 256);
        forged(seven, 1, 0, 7 + 256);
        forged(seven, 2, 0, 7 + 65536);
        forged(seven, 2, 1, 7, Integer.MIN_VALUE);
    }

    private static void judged(String text, int sort, int want, int... told) {
        OnlyInDisguise x = Checks.with(text);
        Checks.fill(x, 0, sort, told);
        due("judge by " + told.length + " told, '" + text + "'", x.judge(0), want);
    }

    // "how many OFFICES are HELD behind 0, 1, .. DAYS: the first that is not so"
    private static void judgedSizes() {
        judged("p009;h40;k017;", 0, -4);
        judged("p009;h40;k017;", 0, -4, 1);
        judged("p009;h40;k017;", 0, -4, 1, 0);
        judged("p009;h40;k017;", 0, 1, 1, 1);
        judged("p009;h40;k017;", 0, 0, 0, 0);
        judged("p009;h40;k016;", 0, -4, 1, 1, 0, 0);
        judged("p009;h40;k016;", 0, 1, 1, 0, 0, 1);
        judged("p009;h40;k016;", 0, 3, 1, 1, 0, 1);
        OnlyInDisguise x = Checks.with("p709;p709;p709;p709;p709;h00;h11;h22;h33;h44;");
        hundred(x, 5, 0);
        due("five for 99 DAYS", x.judge(0), -4);
        x.put(0, 99, 4);
        due("not behind 99", x.judge(0), 99);
        x.put(0, 0, 6);
        due("not now", x.judge(0), 0);
        OnlyInDisguise none = new OnlyInDisguise();
        hundred(none, 0, 0);
        due("none for 99 DAYS", none.judge(0), -4);
    }

    private static void judgedNumbers() {
        String five = "p709;p709;p709;p709;p709;h00;h11;h22;h33;h44;";
        judged(five, 0, -4, 5, 5);
        judged(five, 0, 0, 4);
        judged(five, 0, 0, 6);
        judged(five, 0, 0, 31);
        judged(five, 0, 0, -5);
        judged(five, 0, -4, 261);
        judged(five, 1, 0, 261);
        judged("e0;", 0, -4, 0, 0);
        judged("e0;", 0, 0, 1);
        judged("e0;", 0, 0, -1);
        judged("e0;", 0, 0, -127);
        judged("e0;", 1, 0, -128);
    }

    private static void years(OnlyInDisguise x, int n, int z, int held, int falls) {
        due("years(" + n + ", " + z + ", 0)", x.years(n, z, 0), held);
        due("years(" + n + ", " + z + ", 1)", x.years(n, z, 1), falls);
    }

    // "n (1 .. 20), each from now", by seeds at the borders of an int; what is
    // due was reckoned by a program of its own, in another language.
    private static void yearsOneToTwenty() {
        OnlyInDisguise x = Checks.with("p019;p129;p239;p349;p459;p561;p672;p783;h00;h12;h23;h34;h45;d01;");
        int[] seeds = {0, 1, -1, 12345, Integer.MIN_VALUE, Integer.MAX_VALUE, 987654321};
        int[] ns = {1, 2, 19, 20};
        int[][] held = {{3, 6, 51, 54}, {1, 4, 48, 50}, {3, 6, 49, 52}, {3, 6, 50, 52}, {3, 6, 51, 54}, {3, 6, 49, 52},
            {3, 5, 51, 54}};
        int[][] falls = {{2, 4, 46, 48}, {5, 7, 52, 55}, {2, 4, 48, 51}, {2, 4, 47, 50}, {2, 4, 46, 48},
            {2, 4, 48, 51}, {2, 5, 47, 49}};
        for (int i = 0; i < seeds.length; i++) {
            for (int j = 0; j < ns.length; j++) {
                years(x, ns[j], seeds[i], held[i][j], falls[i][j]);
            }
        }
        for (int n : new int[] {0, 21, -1, Integer.MAX_VALUE, Integer.MIN_VALUE}) {
            years(x, n, 1, -1, -1);
        }
        due("what 2", x.years(1, 1, 2), -1);
        due("what -1", x.years(1, 1, -1), -1);
        years(x, 20, 12345, 52, 50);
    }

    // "then 15 DAYS": an ENEMY of 0 in a COSTUME above 1 falls 20 DAYS less
    // those he is KNOWN by at first.
    private static void yearsOfFifteenDays() {
        OnlyInDisguise x = Checks.with("p509;h00;");
        // The sixth DRAW is 4 by the seed 5, 5 by the seed 2; the first ones are above 1.
        years(x, 1, 5, 1, 0);
        years(x, 1, 2, 0, 1);
        x.knows(0, 10);
        years(x, 1, 5, 1, 0);
    }

    private static void yearsOfNobody() {
        OnlyInDisguise x = new OnlyInDisguise();
        years(x, 1, 5, 0, 0);
        years(x, 20, -5, 0, 0);
        OnlyInDisguise five = Checks.with("p709;p709;p709;p709;p709;h00;h11;h22;h33;h44;");
        years(five, 1, 5, 5, 0);
        years(five, 20, -5, 100, 0);
        OnlyInDisguise children = Checks.with("p609;p609;p609;p609;p609;h00;h11;h22;h33;h44;");
        years(children, 20, 5, 0, 100);
        children.days(3);
        years(children, 20, 5, 0, 0);
    }
}
