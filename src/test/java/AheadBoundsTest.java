/**
 * The boundaries of looks ahead in mind, a test for each sentence that names
 * one (promises 13 to 18).
 */
public final class AheadBoundsTest {
    private static final Checks CHECKS = new Checks("AheadBoundsTest");
    // A DOG of 9 bears 58; in COSTUME 8 he SHOWS 1, in common 0. A MINISTER
    // beside him, KNOWN 18, falls on the second DAY, KNOWN 17 on the third.
    private static final String DOG_TO_60 = "p499;p009;h00;h11;o08;o18;k118;";
    private static final String DOG_TO_61 = "p499;p009;h00;h11;o08;o18;k117;";

    public static void main(String[] args) {
        asItIs();
        sixtyDaysOn();
        sixtyOneDaysOn();
        nothingChangesByLooking();
        fallsWhen();
        fallsFirst();
        fallsNever();
        emptyWhen();
        lastsAtLeastOne();
        lastsAtMostSixty();
        lastsAlone();
        lastsAsHeIsKnown();
        dayMayPass999();
        onTheLastDayAsOnTheFirst();
        CHECKS.end();
    }

    private static void due(String call, long got, long want) {
        CHECKS.due(call, got, want);
    }

    // "n DAYS on (0 .. 60)": behind none all is as it is
    private static void asItIs() {
        OnlyInDisguise x = Checks.with("p009;p009;p009;p009;p009;p009;p009;p009;h00;h47;k099;k799;");
        due("heldThen(0, 0)", x.heldThen(0, 0), 0);
        due("heldThen(4, 0)", x.heldThen(4, 0), 7);
        due("heldThen(1, 0)", x.heldThen(1, 0), -4);
        due("knownThen(0, 0)", x.knownThen(0, 0), 99);
        due("knownThen(7, 0)", x.knownThen(7, 0), 99);
        due("then(0, 0)", x.then(0, 0), 17);
        due("then(0, 1)", x.then(0, 1), 0);
        due("heldThen(0, 1)", x.heldThen(0, 1), -4);
        due("heldThen(4, 1)", x.heldThen(4, 1), -4);
        due("then(1, 0)", x.then(1, 0), 0);
        due("then(1, 1)", x.then(1, 1), 2);
        x.days(1);
        due("FALLS that were", x.then(0, 1), 2);
        OnlyInDisguise all = Checks.with("p709;p709;p709;p709;p709;h00;h11;h22;h33;h44;");
        due("all five HELD", all.then(0, 0), 31);
        due("all five HELD, 60 DAYS on", all.then(60, 0), 31);
    }

    private static void sixtyDaysOn() {
        OnlyInDisguise x = Checks.with(DOG_TO_60);
        due("heldThen(0, 59)", x.heldThen(0, 59), 0);
        due("heldThen(0, 60)", x.heldThen(0, 60), -4);
        due("knownThen(0, 59)", x.knownThen(0, 59), 57);
        due("knownThen(0, 60)", x.knownThen(0, 60), 58);
        due("then(59, 0)", x.then(59, 0), 1);
        due("then(60, 0)", x.then(60, 0), 0);
        due("then(59, 1)", x.then(59, 1), 1);
        due("then(60, 1)", x.then(60, 1), 2);
    }

    private static void sixtyOneDaysOn() {
        OnlyInDisguise x = Checks.with(DOG_TO_61);
        due("heldThen(0, 60)", x.heldThen(0, 60), 0);
        due("knownThen(0, 60)", x.knownThen(0, 60), 57);
        due("then(60, 0)", x.then(60, 0), 1);
        due("then(60, 1)", x.then(60, 1), 1);
        due("heldThen(0, 61)", x.heldThen(0, 61), -1);
        due("knownThen(0, 61)", x.knownThen(0, 61), -1);
        due("then(61, 0)", x.then(61, 0), -1);
        due("then(61, 1)", x.then(61, 1), -1);
        due("heldThen(0, -1)", x.heldThen(0, -1), -1);
        due("knownThen(0, -1)", x.knownThen(0, -1), -1);
        due("then(-1, 0)", x.then(-1, 0), -1);
    }

    private static void still(String call, long want, Checks.Call look) {
        CHECKS.still(call, Houses.FULL, want, look);
    }

    // "In mind": in a full house, DAY 4, with a SWEEPER, a TAILOR and a DOG in office
    private static void nothingChangesByLooking() {
        still("heldThen(1, 60)", -4, x -> x.heldThen(1, 60));
        still("knownThen(5, 60)", 0, x -> x.knownThen(5, 60));
        still("then(60, 0)", 1, x -> x.then(60, 0));
        still("then(60, 1)", 5, x -> x.then(60, 1));
        still("falls(2)", 24, x -> x.falls(2));
        still("empty(2)", 21, x -> x.empty(2));
        still("lasts(3, 0)", 1, x -> x.lasts(3, 0));
        still("bestCostume(2, 60, 0)", 4, x -> x.bestCostume(2, 60, 0));
        still("casts(-1)", 130, x -> x.casts(-1));
        still("send(60)", 2, x -> x.send(60));
        still("change(60)", 23, x -> x.change(60));
        still("over(4)", 0, x -> x.over(4));
        still("whatIs(3, 0, 0)", 0, x -> x.whatIs(3, 0, 0));
        still("whatIs(6, 7, 1)", 1023, x -> x.whatIs(6, 7, 1));
        still("whoHeld(6, 0)", 255, x -> x.whoHeld(6, 0));
        still("two(2, 4, 30)", 11, x -> x.two(2, 4, 30));
        still("scandals(0, 7, 20, 1)", 1, x -> x.scandals(0, 7, 20, 1));
        still("mean(1)", 8, x -> x.mean(1));
        still("forged(7)", 0, x -> x.forged(7));
        still("judge(7)", 0, x -> x.judge(7));
        still("years(20, 3, 0)", 54, x -> x.years(20, 3, 0));
    }

    // "behind how many DAYS (0 .. 60) one who HOLDS an OFFICE now does not HOLD that one first"
    private static void fallsWhen() {
        due("on the first DAY", Checks.with("p009;h00;k017;").falls(0), 1);
        due("KNOWN too well already", Checks.with("p009;h00;k099;").falls(0), 1);
        due("on the second", Checks.with("p009;h00;k016;").falls(0), 2);
        due("on the 60th", Checks.with(DOG_TO_60).falls(0), 60);
        due("on the 61st", Checks.with(DOG_TO_61).falls(0), -4);
        due("the last of PEOPLE, the last OFFICE",
            Checks.with("p009;p009;p009;p009;p009;p009;p009;p009;h47;").falls(7), 7);
    }

    // "first": he may come back into the same OFFICE or another, as a MATE
    private static void fallsFirst() {
        OnlyInDisguise x = Checks.with("p001;p000;h00;k020;");
        due("his MATE follows, and he him: behind 1", x.falls(0), 1);
        due("he is back behind that", x.heldThen(0, 11), 0);
        OnlyInDisguise y = Checks.with("p009;p000;h00;h11;k017;k108;");
        due("he comes into the MATE's OFFICE", y.heldThen(1, 5), 0);
        due("he did not HOLD his behind 1", y.falls(0), 1);
        due("the MATE behind 4", y.falls(1), 4);
    }

    // "-4 (he HOLDS none, too)"
    private static void fallsNever() {
        OnlyInDisguise x = Checks.with("p001;p009;p709;h00;k020;h12;k298;");
        due("who HOLDS none now, though he will", x.falls(1), -4);
        due("and he falls then", x.then(60, 1), 2);
        due("a SWEEPER", x.falls(2), -4);
        x.empties(1);
        due("he HOLDS none any more", x.falls(2), -4);
    }

    // "behind how many DAYS (0 .. 60) an OFFICE is empty first; -4"
    private static void emptyWhen() {
        OnlyInDisguise x = Checks.with("p002;p009;p009;h00;h41;k017;k120;");
        due("empty now", x.empty(1), 0);
        due("behind a DAY", x.empty(4), 1);
        due("his MATE follows, behind both", x.empty(0), 8);
        due("of nobody", new OnlyInDisguise().empty(4), 0);
        due("behind 60", Checks.with(DOG_TO_60).empty(0), 60);
        due("behind 61", Checks.with(DOG_TO_61).empty(0), -4);
        due("never", Checks.with("p709;h20;k098;").empty(2), -4);
        due("a MATE each time", Checks.with("p001;p002;p003;p004;p005;p006;p007;p000;h00;").empty(0), -4);
        due("a MATE seven times", Checks.with("p001;p002;p003;p004;p005;p006;p007;p009;h00;").empty(0), 56);
    }

    private static void lasts(String text, int want) {
        due("lasts(0, 0) by '" + text + "'", Checks.with(text).lasts(0, 0), want);
    }

    // "how many DAYS (1 .. 60) .. at least"
    private static void lastsAtLeastOne() {
        lasts("p009;k016;", 2);
        lasts("p009;k017;", 1);
        lasts("p009;k020;", 1);
        lasts("p009;k099;", 1);
        lasts("p799;k099;", 1);
        lasts("p659;", 1);
        lasts("p609;", 2);
        lasts("p609;k001;", 1);
    }

    // "60 at most"
    private static void lastsAtMostSixty() {
        lasts("p709;", 60);
        lasts("p709;k098;", 60);
        lasts("p409;", 60);
        lasts("p409;k039;", 60);
        lasts("p409;k040;", 1);
        lasts("p499;o08;", 58);
        lasts("p499;o08;k001;", 57);
        lasts("p499;o09;", 60);
        lasts("p599;o09;", 38);
    }

    // "all others without any": not COMMON, and no MATE
    private static void lastsAlone() {
        OnlyInDisguise x = Checks.with("p001;p709;p709;h11;o10;h22;o20;");
        due("beside two in his COSTUME", x.lasts(0, 0), 7);
        due("in an OFFICE that is HELD", x.lasts(1, 0), 7);
        x.holds(0, 0);
        due("in the OFFICE that he HOLDS", x.lasts(0, 0), 7);
        due("but he falls later so", x.falls(0), 20);
        due("his own MATE", Checks.with("p000;").lasts(4, 0), 7);
        due("a ring of MATES", Checks.with("p001;p000;").lasts(4, 0), 7);
    }

    // "KNOWN as he is", by DAYS from the next on
    private static void lastsAsHeIsKnown() {
        lasts("p009;", 7);
        lasts("p009;k001;", 7);
        lasts("p009;k002;", 6);
        lasts("p399;", 1);
        lasts("p389;", 2);
        lasts("p399;d01;", 2);
        lasts("p309;k003;", 2);
        lasts("p309;k002;", 3);
        lasts("p309;d01;k009;", 1);
        lasts("p309;d01;k008;", 2);
    }

    /** DAY 999, with a WIDOW of FIGURE 2 as the third of PEOPLE in OFFICE 1. */
    private static OnlyInDisguise widowOnLastDay() {
        OnlyInDisguise x = Houses.late(999);
        x.keep(0, 1, 3, 2);
        x.comes(0, 9);
        x.holds(1, 2);
        return x;
    }

    // "(DAY may pass 999 there)": DAY 1000 is even
    private static void dayMayPass999() {
        OnlyInDisguise x = widowOnLastDay();
        due("on DAY 1000", x.knownThen(2, 1), 6);
        due("on DAY 1001", x.knownThen(2, 2), 14);
        due("on DAY 1002 she falls", x.knownThen(2, 3), 20);
        due("falls(2)", x.falls(2), 3);
        due("empty(1)", x.empty(1), 3);
        due("lasts(1, 2)", x.lasts(1, 2), 3);
        due("heldThen(1, 60)", x.heldThen(1, 60), -4);
        due("heldThen(0, 60)", x.heldThen(0, 60), 0);
        due("then(60, 0)", x.then(60, 0), 1);
        due("then(60, 1)", x.then(60, 1), 1);
        due("DAY", x.count(1), 999);
        due("but days() goes no further", x.days(1), -3);
        due("KNOWN", x.one(2, 2), 0);
        OnlyInDisguise y = Houses.late(940);
        due("then(59, 0) from DAY 940", y.then(59, 0), 1);
        due("then(60, 0) from DAY 940", y.then(60, 0), 1);
    }

    private static String looks(OnlyInDisguise x) {
        StringBuilder told = new StringBuilder();
        for (int i = 0; i < 5; i++) {
            told.append(' ').append(x.heldThen(i, 60)).append(' ').append(x.empty(i)).append(' ').append(x.lasts(i, 4));
            told.append(' ').append(x.bestCostume(i, 60, 0)).append(' ').append(x.bestCostume(i, 60, 1));
            told.append(' ').append(x.casts(i)).append(' ').append(x.over(i)).append(' ').append(x.scandals(i, 7, 3, 0));
        }
        for (int p = 0; p < 7; p++) {
            told.append(' ').append(x.knownThen(p, 60)).append(' ').append(x.falls(p)).append(' ').append(x.shows(p, 4));
            told.append(' ').append(x.whatIs(0, p, 0)).append(' ').append(x.whatIs(0, p, 1));
        }
        told.append(' ').append(x.then(60, 0)).append(' ').append(x.then(60, 1)).append(' ').append(x.casts(-1));
        told.append(' ').append(x.send(60)).append(' ').append(x.change(60)).append(' ').append(x.whoHeld(1, 3));
        told.append(' ').append(x.two(0, 3, 30)).append(' ').append(x.judge(2)).append(' ').append(x.years(20, 9, 1));
        return told.toString();
    }

    private static OnlyInDisguise onDay(int day) {
        OnlyInDisguise x = new OnlyInDisguise();
        for (int i = 0; i < day / 60; i++) {
            x.days(60);
        }
        if (day % 60 > 0) {
            x.days(day % 60);
        }
        Checks.tell(x, 7, "p051;p162;p273;p384;p495;p526;p639;h00;h11;h23;h34;h45;o11;o40;k512;");
        Checks.fill(x, 0, 2, Integer.MIN_VALUE, Integer.MIN_VALUE, 2, Integer.MIN_VALUE, 8);
        Checks.fill(x, 1, 0, 1, -128, 1, -128, -128, -128, -128, 1);
        Checks.fill(x, 2, 1, 5, 5, -32768, 4, -32768);
        return x;
    }

    // Odd is odd and even is even, whether DAY passes 999 or not.
    private static void onTheLastDayAsOnTheFirst() {
        CHECKS.same("on DAY 999", looks(onDay(999)), looks(onDay(1)));
        CHECKS.same("on DAY 998", looks(onDay(998)), looks(onDay(2)));
        CHECKS.same("on DAY 940", looks(onDay(940)), looks(onDay(0)));
        due("odd and even are not alike", looks(onDay(1)).equals(looks(onDay(2))) ? 1 : 0, 0);
    }
}
