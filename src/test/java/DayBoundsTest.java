/**
 * The boundaries of a DAY, of DAY and of FALLS, a test for each sentence that
 * names one (promise 12, and what "A DAY" says).
 */
public final class DayBoundsTest {
    private static final Checks CHECKS = new Checks("DayBoundsTest");
    private static final String FIVE_FALL = "h00;k020;h11;k120;h22;k220;h33;k320;h44;k420;d01;";

    public static void main(String[] args) {
        forgetToNothing();
        showToNinetyNine();
        asMuchAsHeBears();
        halfInCommon();
        commonByHeld();
        asTheyAreAtFirst();
        oddAndEvenDays();
        mateWhoIsThere();
        mateWhoHoldsNoneByThen();
        mateWhoIsKnownLess();
        followersDay();
        fallenOnesDay();
        oneToSixtyDays();
        dayToLast();
        fallsToLast();
        fallsPassLastTogether();
        CHECKS.end();
    }

    private static void due(String call, long got, long want) {
        CHECKS.due(call, got, want);
    }

    /** KNOWN of the first behind a text. */
    private static void known(String text, int want) {
        due("KNOWN by '" + text + "'", Checks.with(text).one(0, 2), want);
    }

    // "those without OFFICE FORGET (0 at least)"
    private static void forgetToNothing() {
        int[] forgets = {2, 1, 3, 0, 3, 5, 1, 9};
        for (int k = 0; k < 8; k++) {
            String one = "p" + k + "59;k00";
            known(one + "0;d01;", 0);
            if (forgets[k] > 0) {
                known(one + (forgets[k] - 1) + ";d01;", 0);
                known(one + forgets[k] + ";d01;", 0);
            }
            known(one + "9;d01;", 9 - forgets[k]);
            known("p" + k + "59;k099;d01;", 99 - forgets[k]);
        }
        known("p599;k009;d01;", 0);
        known("p599;k008;d01;", 0);
        known("p509;k008;d60;", 8);
        known("p009;k099;d49;", 1);
        known("p009;k099;d50;", 0);
        known("p309;k099;d60;", 99);
    }

    // "those with SHOW (99 at most ..)"
    private static void showToNinetyNine() {
        known("p109;h00;k092;d01;", 98);
        known("p109;h00;k093;d01;", 99);
        known("p109;h00;k094;d01;", 99);
        known("p109;h00;k099;d01;", 99);
        known("p399;h00;k083;d01;", 98);
        known("p399;h00;k084;d01;", 99);
        known("p399;h00;k085;d01;", 99);
        known("p009;h00;k096;d01;", 99);
        known("p009;h00;k097;d01;", 99);
        known("p709;h00;k098;d60;", 98);
    }

    /** Of KIND and FIGURE, in OFFICE 0 and a COSTUME: KNOWN with which he just stays, and with which he just FALLS. */
    private static void fallsFrom(String kindAndFigure, int costume, int stays) {
        for (int known = stays; known < stays + 2; known++) {
            String text = "p" + kindAndFigure + "9;h00;o0" + costume + ";k0" + known / 10 + known % 10 + ";d01;";
            OnlyInDisguise x = Checks.with(text);
            due("FALLS by '" + text + "'", x.count(2), known - stays);
            due("HELD by '" + text + "'", x.office(0, 1), known == stays ? 0 : -4);
        }
    }

    // "whose holder is KNOWN as much as he BEARS or more, he FALLS"
    private static void asMuchAsHeBears() {
        fallsFrom("05", 0, 16);
        fallsFrom("15", 0, 8);
        fallsFrom("25", 5, 23);
        fallsFrom("20", 9, 15);
        fallsFrom("35", 0, 3);
        fallsFrom("30", 0, 8);
        fallsFrom("45", 0, 47);
        fallsFrom("45", 5, 49);
        fallsFrom("55", 0, 26);
        fallsFrom("50", 9, 18);
        fallsFrom("65", 5, 0);
        fallsFrom("75", 0, 98);
        due("a CHILD below his FIGURE at once", Checks.with("p659;h00;d01;").count(2), 1);
        due("far more than he BEARS", Checks.with("p109;h00;k099;d01;").count(2), 1);
    }

    /** KNOWN of the first, in OFFICE 0 and COSTUME 0 with one beside him in it. */
    private static void half(String kindAndFigure, int want) {
        known("p" + kindAndFigure + "9;p709;h00;h11;o10;d01;", want);
        known("p" + kindAndFigure + "9;p709;p709;h00;h11;o10;h22;o20;d01;", want);
    }

    // "in it one SHOWS half, cut"
    private static void halfInCommon() {
        half("00", 1);
        half("10", 3);
        half("20", 0);
        half("23", 1);
        half("26", 1);
        half("29", 2);
        half("30", 3);
        half("31", 3);
        half("32", 4);
        half("39", 7);
        half("40", 0);
        half("49", 2);
        half("50", 1);
        half("60", 3);
        half("61", 4);
        half("70", 0);
        known("p509;p709;h00;h11;o01;d01;", 1);
        known("p509;p709;h00;h11;o03;o13;d01;", 0);
    }

    // "if two OFFICES or more that are HELD have it"
    private static void commonByHeld() {
        known("p109;h00;o10;o20;o30;o40;d01;", 6);
        known("p109;p709;h00;h11;d01;", 6);
        known("p109;p709;h00;h41;o40;d01;", 3);
        known("p109;p709;p709;h00;h11;h22;o12;d01;", 6);
        known("p109;p709;h00;h11;o10;e1;d01;", 6);
        OnlyInDisguise x = Checks.with("p109;p109;p109;p109;h00;h11;h22;h33;o01;o32;d01;");
        for (int p = 0; p < 4; p++) {
            due("two and two COMMON, KNOWN of " + p, x.one(p, 2), 3);
        }
    }

    // "all by OFFICES as they are": one who FALLS makes it COMMON that DAY, and no DAY longer
    private static void asTheyAreAtFirst() {
        OnlyInDisguise x = Checks.with("p109;p009;h40;h01;o40;k119;");
        x.days(1);
        due("the other has fallen", x.count(3), 16);
        due("half, on that DAY", x.one(0, 2), 3);
        x.days(1);
        due("in full, on the next", x.one(0, 2), 9);
        OnlyInDisguise y = Checks.with("p109;p002;p109;h40;h01;o40;k119;d01;");
        due("one follows him, half on that DAY", y.one(0, 2), 3);
        due("who follows shows nothing on that DAY", y.one(2, 2), 0);
        y.days(1);
        due("half on the next, too", y.one(0, 2), 6);
        due("and so does he", y.one(2, 2), 3);
    }

    // "on odd DAYS": DAY is 1 more ahead of all else
    private static void oddAndEvenDays() {
        known("p329;h00;d01;", 8);
        known("p329;h00;d02;", 14);
        known("p329;d01;h00;d01;", 6);
        known("p329;d01;h00;d02;", 14);
    }

    /** Who HOLDS OFFICE 0 behind a text. */
    private static void holder(String text, int want) {
        due("OFFICE 0 by '" + text + "'", Checks.with(text).office(0, 1), want);
    }

    // "HELD by his MATE, if that one is there .. else it is empty"
    private static void mateWhoIsThere() {
        holder("p009;p009;h00;k020;d01;", -4);
        holder("p001;h00;k020;d01;", -4);
        holder("p002;p009;h00;k020;d01;", -4);
        holder("p001;p009;h00;k020;d01;", 1);
        holder("p000;h00;k020;d01;", -4);
        holder("p007;p009;p009;p009;p009;p009;p009;h00;k020;d01;", -4);
        holder("p007;p009;p009;p009;p009;p009;p009;p009;h00;k020;d01;", 7);
        holder("p009;p000;h01;k120;d01;", 0);
        holder("p007;h00;k020;d01;", -4);
    }

    // "HOLDS none by then"
    private static void mateWhoHoldsNoneByThen() {
        holder("p001;p709;h00;h11;k020;d01;", -4);
        holder("p001;p709;h00;h41;k020;d01;", -4);
        holder("p001;p009;h00;h41;k020;k120;d01;", -4);
        OnlyInDisguise x = Checks.with("p009;p000;h00;h41;k020;k120;d01;");
        due("the MATE fell ahead of him, KNOWN too well", x.count(3), 0);
        due("both fell", x.count(2), 2);
        x = Checks.with("p709;p000;h00;h41;k120;d01;");
        due("the MATE HOLDS a lesser OFFICE", x.count(3), 1);
        x = Checks.with("p002;p002;p009;h00;h41;k020;k120;d01;");
        due("the MATE of both follows the first", x.count(3), 1);
        due("once", x.office(0, 1), 2);
        x = Checks.with("p002;p002;p009;h40;h01;k020;k120;d01;");
        due("OFFICES go by numbers, not PEOPLE", x.office(0, 1), 2);
        due("so the greater is empty", x.office(4, 1), -4);
    }

    // "and is KNOWN less than he BEARS": what he forgot on that DAY counts
    private static void mateWhoIsKnownLess() {
        holder("p001;p009;h00;k020;k121;d01;", 1);
        holder("p001;p009;h00;k020;k122;d01;", -4);
        holder("p001;p309;h00;k020;k114;d01;", 1);
        holder("p001;p309;h00;k020;k115;d01;", -4);
        holder("p001;p409;h00;k020;k142;d01;", 1);
        holder("p001;p409;h00;k020;k143;d01;", -4);
        holder("p001;p609;h00;k020;k107;d01;", 1);
        holder("p001;p609;h00;k020;k108;d01;", -4);
        holder("p001;p709;h00;k020;k199;d01;", 1);
        holder("p001;p509;h00;k020;k119;d01;", 1);
        holder("p001;p509;h00;k020;k120;d01;", -4);
    }

    // He followed on this DAY: he is looked at on the next one.
    private static void followersDay() {
        OnlyInDisguise x = Checks.with("p001;p009;h00;k020;k121;d01;");
        due("who follows has forgotten", x.one(1, 2), 19);
        due("one fell", x.count(2), 1);
        x.days(1);
        due("he shows on the next DAY", x.one(1, 2), 22);
        due("and falls", x.count(2), 2);
        due("it is empty", x.office(0, 1), -4);
    }

    private static void fallenOnesDay() {
        OnlyInDisguise x = Checks.with("p009;h00;k017;d01;");
        due("KNOWN as he fell", x.one(0, 2), 20);
        due("he HOLDS none", x.one(0, 4), -4);
        x.days(1);
        due("he forgets from the next DAY on", x.one(0, 2), 18);
        due("and falls no more", x.days(60), 1);
    }

    // "n DAYS (1 .. 60)"
    private static void oneToSixtyDays() {
        OnlyInDisguise x = new OnlyInDisguise();
        due("none", x.days(0), -1);
        due("DAY behind it", x.count(1), 0);
        due("1", x.days(1), 0);
        due("DAY 1", x.count(1), 1);
        due("60", x.days(60), 0);
        due("DAY 61", x.count(1), 61);
        due("61", x.days(61), -1);
        due("less than none", x.days(-1), -1);
        due("the greatest", x.days(Integer.MAX_VALUE), -1);
        due("the least", x.days(Integer.MIN_VALUE), -1);
        due("DAY 61 behind them", x.count(1), 61);
    }

    private static void lateDays(int day, int n, long want, int dayThen) {
        OnlyInDisguise x = Houses.late(day);
        due("DAY", x.count(1), day);
        due("days(" + n + ") on DAY " + day, x.days(n), want);
        due("DAY behind it", x.count(1), dayThen);
    }

    // "refused (-3 ..), if DAY and n together are above 999; none of them goes then"
    private static void dayToLast() {
        lateDays(939, 60, 0, 999);
        lateDays(940, 60, -3, 940);
        lateDays(940, 59, 0, 999);
        lateDays(998, 1, 0, 999);
        lateDays(998, 2, -3, 998);
        lateDays(999, 1, -3, 999);
        lateDays(999, 60, -3, 999);
        lateDays(999, 61, -1, 999);
        lateDays(999, 0, -1, 999);
        lateDays(999, Integer.MAX_VALUE, -1, 999);
        OnlyInDisguise x = Houses.late(998);
        x.holds(1, 1);
        x.knows(1, 19);
        due("nobody falls on a DAY that is refused", x.days(2), -3);
        due("nobody is KNOWN more by it", x.one(1, 2), 19);
        due("all HELD as ahead of it", x.count(3), 3);
        due("the last DAY", x.days(1), 1);
    }

    /** FALLS 990, by five MINISTERS who fell 198 times; one more tells a text by SHELF 0. */
    private static OnlyInDisguise fallsOf990() {
        OnlyInDisguise x = Checks.with("p009;p009;p009;p009;p009;");
        Checks.tell(x, 0, FIVE_FALL + FIVE_FALL);
        for (int i = 1; i < 99; i++) {
            x.cabinet(0);
        }
        due("FALLS", x.count(2), 990);
        return x;
    }

    private static void fall(OnlyInDisguise x, int p) {
        x.holds(0, p);
        x.knows(p, 20);
        x.days(1);
    }

    // "FALLS 1 more, 999 at most", one by one
    private static void fallsToLast() {
        OnlyInDisguise x = fallsOf990();
        for (int falls = 991; falls <= 999; falls++) {
            fall(x, falls % 5);
            due("one more", x.count(2), falls);
        }
        fall(x, 0);
        due("no more than 999", x.count(2), 999);
        due("but he fell", x.count(3), 0);
        x.holds(0, 1);
        x.knows(1, 20);
        due("days() tells 999", x.days(1), 999);
        x.holds(0, 2);
        x.knows(2, 20);
        due("in mind 999", x.then(1, 1), 999);
        due("he FALLS behind a DAY", x.falls(2), 1);
    }

    // The same, some of them together
    private static void fallsPassLastTogether() {
        OnlyInDisguise x = fallsOf990();
        Checks.tell(x, 0, FIVE_FALL);
        due("FALLS", x.count(2), 995);
        x.image();
        due("five more are no more than 999", x.cabinet(0), 11);
        due("999", x.count(2), 999);
        due("five more on 999", x.cabinet(0), 11);
        due("999 still", x.count(2), 999);
        due("as they were then", x.restore(), 199);
        due("FALLS as they were", x.count(2), 995);
        for (int p = 0; p < 5; p++) {
            x.holds(p, p);
            x.knows(p, 20);
        }
        due("in mind, too", x.then(1, 1), 999);
        due("of those there 4 more can be told", x.bestCostume(0, 1, 1), 4);
        x.empties(4);
        due("four more are 999", x.then(1, 1), 999);
        x.empties(3);
        due("three more", x.then(1, 1), 998);
    }
}
