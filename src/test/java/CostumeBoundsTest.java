/**
 * The boundaries of costumes, and of who should hold what, a test for each
 * sentence that names one (promises 19 to 23).
 */
public final class CostumeBoundsTest {
    private static final Checks CHECKS = new Checks("CostumeBoundsTest");
    private static final String EIGHT = "p009;p009;p009;p009;p009;p009;p009;p009;";

    public static void main(String[] args) {
        bestBehindNone();
        bestOfSeveral();
        bestOfTenCostumes();
        bestOfAnEmptyOffice();
        howManyMore();
        castOfNobody();
        castOfFew();
        castOfMany();
        castTheFirst();
        sendBehindNone();
        sendForFewer();
        sendTheLeast();
        changeBehindNone();
        changeForFewer();
        changeTheFirst();
        sixtyDays();
        plainOnes();
        over();
        like();
        closest();
        stableAtOnce();
        stableByTen();
        stableToFifty();
        askedAnew();
        refusedOver();
        CHECKS.end();
    }

    private static void due(String call, long got, long want) {
        CHECKS.due(call, got, want);
    }

    private static void best(String text, int f, int n, int costume, int more) {
        OnlyInDisguise x = Checks.with(text);
        due("bestCostume(" + f + ", " + n + ", 0) by '" + text + "'", x.bestCostume(f, n, 0), costume);
        due("bestCostume(" + f + ", " + n + ", 1) by '" + text + "'", x.bestCostume(f, n, 1), more);
    }

    // "FALLS are fewest behind n DAYS (0 .. 60)": behind none none
    private static void bestBehindNone() {
        best("p009;h00;k099;", 0, 0, 0, 0);
        best("p009;h00;k099;", 0, 1, 0, 1);
        best("p659;h00;", 0, 0, 0, 0);
        best("e0;", 4, 0, 0, 0);
        best("e0;", 4, 60, 0, 0);
    }

    // "of several the least": a CHILD in a COSTUME below his FIGURE falls at once
    private static void bestOfSeveral() {
        for (int figure = 0; figure < 10; figure++) {
            best("p6" + figure + "9;h40;", 4, 1, figure, 0);
            best("p6" + figure + "9;h40;", 4, 2, 0, 1);
        }
    }

    // A TAILOR of 1 would show 4 in a COSTUME 10, fall while his MATE still
    // HOLDS the next OFFICE, and there would be one FALL less than by 0 .. 9.
    private static void bestOfTenCostumes() {
        best("p211;p009;h00;h11;k102;", 0, 60, 0, 3);
    }

    private static void bestOfAnEmptyOffice() {
        best("p009;h00;k017;", 1, 1, 0, 1);
        best("p009;p009;h00;h11;o15;k017;k117;", 2, 1, 0, 2);
        // An empty OFFICE makes no COSTUME COMMON.
        best("p009;h00;o05;k018;", 1, 1, 0, 1);
        // A SWEEPER in it makes his COMMON, and he does not fall on that DAY.
        best("p009;p709;h00;o05;h11;k018;", 1, 1, 5, 0);
    }

    // "how many more there are", those that were not counted
    private static void howManyMore() {
        String five = "p009;p009;p009;p009;p009;h00;h11;h22;h33;h44;k017;k117;k217;k317;k417;";
        // In COMMON with the next one neither of both falls for two DAYS.
        best(five, 0, 1, 1, 3);
        best(five, 0, 2, 1, 3);
        best(five, 0, 3, 0, 5);
        best(five, 4, 60, 0, 5);
        best(five + "d01;", 0, 60, 0, 0);
        best(five + "d01;h00;", 0, 60, 0, 1);
        best(five + "d01;h00;", 0, 0, 0, 0);
    }

    private static void cast(String text, int together, int... who) {
        OnlyInDisguise x = Checks.with(text);
        due("casts(-1) by '" + text + "'", x.casts(-1), together);
        for (int f = 0; f < 5; f++) {
            due("casts(" + f + ") by '" + text + "'", x.casts(f), who[f]);
        }
        due("casts(5) by '" + text + "'", x.casts(5), -1);
        due("casts(-2) by '" + text + "'", x.casts(-2), -1);
    }

    // "(an empty OFFICE 0)"
    private static void castOfNobody() {
        OnlyInDisguise x = new OnlyInDisguise();
        due("together", x.casts(-1), 0);
        for (int f = 0; f < 5; f++) {
            due("nobody for " + f, x.casts(f), -4);
        }
    }

    private static void castOfFew() {
        cast("p009;", 7, 0, -4, -4, -4, -4);
        cast("p009;k099;", 1, 0, -4, -4, -4, -4);
        cast("p509;", 20, -4, -4, 0, -4, -4);
        cast("p449;", 60, -4, -4, -4, -4, 0);
        cast("p709;p709;p709;p709;", 240, 0, 1, 2, 3, -4);
        cast("p709;p709;p709;p709;p709;", 300, 0, 1, 2, 3, 4);
        cast("p009;p009;p009;p009;p009;k099;k199;k299;k399;k499;", 5, 0, 1, 2, 3, 4);
    }

    // "PEOPLE for OFFICES, one at most in each, no one in two"
    private static void castOfMany() {
        cast("p709;p709;p709;p709;p709;p709;p709;p709;", 300, 0, 1, 2, 3, 4);
        cast("p009;p009;p009;p009;p009;p709;", 60 + 28, 0, 1, 2, 3, 5);
        cast("p009;p009;p009;p709;p709;p709;p709;p709;", 300, 3, 4, 5, 6, 7);
        cast(EIGHT + "k002;k102;k202;", 35, 3, 4, 5, 6, 7);
        cast(EIGHT + "k002;k102;k202;k302;", 34, 0, 4, 5, 6, 7);
    }

    // "by the first such (by OFFICES, the least one, empty last)"
    private static void castTheFirst() {
        cast("p709;p009;", 67, 0, 1, -4, -4, -4);
        cast("p009;p709;", 67, 0, 1, -4, -4, -4);
        cast("p509;p009;", 27, 1, -4, 0, -4, -4);
        cast("p009;p509;", 27, 0, -4, 1, -4, -4);
        cast("p509;p509;p509;", 60, -4, -4, 0, 1, 2);
        cast("p509;p509;p509;p509;", 70, -4, 0, 1, 2, 3);
    }

    private static void send(String text, int n, int want) {
        due("send(" + n + ") by '" + text + "'", Checks.with(text).send(n), want);
    }

    private static void sendBehindNone() {
        send("p009;h00;k099;", 0, -4);
        send("p009;h00;k099;", 1, 0);
        send("p009;k099;", 1, -4);
        send("e0;", 60, -4);
    }

    // "fewer than as it is": no fewer is none
    private static void sendForFewer() {
        send("p009;h00;", 6, -4);
        send("p009;h00;", 7, 0);
        send("p709;h00;", 60, -4);
        // Without the SWEEPER his COSTUME is not COMMON: the MINISTER falls sooner.
        send("p709;p009;h00;h11;o10;k118;", 2, 1);
        send("p709;p009;h00;h11;o10;k118;", 1, -4);
        // He falls and his MATE falls behind him; without the MATE he does alone.
        send("p001;p109;p709;h00;k014;", 60, 0);
    }

    // "of several the least", of one and of another as many
    private static void sendTheLeast() {
        send("p009;p009;h00;h11;k017;k117;", 1, 0);
        send("p009;p009;h01;h10;k017;k117;", 1, 0);
        send("p009;p009;h01;h10;k117;", 1, 1);
        send(EIGHT + "h47;k717;", 1, 7);
        send(EIGHT + "h47;h06;k717;k617;", 1, 6);
        // The second is better than the first: his MATE and the MATE's fall with him.
        send("p009;p002;p103;p109;h00;h11;k017;k117;", 20, 1);
    }

    private static void change(String text, int n, int want) {
        due("change(" + n + ") by '" + text + "'", Checks.with(text).change(n), want);
    }

    private static void changeBehindNone() {
        change("p619;h00;k099;", 0, -4);
        change("p619;h00;", 0, -4);
        change("p619;h00;", 1, 1);
        change("e0;", 60, -4);
    }

    // "fewer than now": no fewer is none
    private static void changeForFewer() {
        change("p609;h00;", 1, -4);
        change("p619;h00;", 2, -4);
        change("p009;h00;k017;", 1, -4);
        change("p619;h00;o10;o20;o30;o40;", 1, -4);
        // What one gains the other loses.
        change("p649;p649;h00;h11;o14;o21;o32;o43;", 1, -4);
        change("p619;p709;h00;h11;o20;o30;o40;", 1, 1);
    }

    // "the two OFFICES (10 the lesser and the other) .. of several the first"
    private static void changeTheFirst() {
        change("p619;h00;", 1, 1);
        change("p629;h00;", 1, 2);
        change("p639;h00;", 1, 3);
        change("p649;h00;", 1, 4);
        change("p629;h10;", 1, 12);
        change("p639;h10;", 1, 13);
        change("p649;h10;", 1, 14);
        change("p639;h20;", 1, 23);
        change("p649;h20;", 1, 24);
        change("p649;h30;", 1, 34);
        change("p659;h30;o45;", 1, 34);
        change("p659;h40;o05;", 1, 4);
        change("p659;h40;o15;", 1, 14);
        change("p659;h40;", 1, -4);
        // 01 saves one of them, 23 too; to change both is not asked.
        change("p619;p639;h00;h21;", 1, 1);
        // 01, 02 and 12 save one of both; by 13 they show half in COMMON.
        change("p619;p629;h00;h11;o29;o30;o40;", 1, 13);
    }

    // A DOG of 9 who falls on DAY 60, in the last of DAYS (0 .. 60); a MINISTER beside him falls on the second.
    private static void sixtyDays() {
        String dog = "p499;p009;h00;h11;o08;o18;o29;k118;";
        best(dog, 0, 59, 8, 1);
        best(dog, 0, 60, 9, 1);
        send(dog, 59, -4);
        send(dog, 60, 0);
        change(dog, 59, -4);
        change(dog, 60, 2);
        OnlyInDisguise x = Checks.with(dog);
        due("61 DAYS: bestCostume", x.bestCostume(0, 61, 0), -1);
        due("61 DAYS: send", x.send(61), -1);
        due("61 DAYS: change", x.change(61), -1);
        due("-1 DAYS: bestCostume", x.bestCostume(0, -1, 0), -1);
        due("-1 DAYS: send", x.send(-1), -1);
        due("-1 DAYS: change", x.change(-1), -1);
    }

    // "KNOWN no more by a DAY in any COSTUME"
    private static void plainOnes() {
        due("nobody", new OnlyInDisguise().over(1), 0);
        due("one of each KIND, FIGURE 0", Checks.with("p009;p109;p209;p309;p409;p509;p609;p709;").over(1), 128);
        due("one of each KIND, FIGURE 9", Checks.with("p099;p199;p299;p399;p499;p599;p699;p799;").over(1), 128);
        due("on an even DAY", Checks.with("p099;p199;p299;p399;p499;p599;p699;p799;d01;").over(1), 128);
        due("eight SWEEPERS", Checks.with("p709;p709;p709;p709;p709;p709;p709;p709;").over(1), 255);
        due("the first and the last", Checks.with("p709;p009;p009;p009;p009;p009;p009;p709;").over(1), 129);
        due("in COMMON half of 1 is nothing, but that is not asked",
            Checks.with("p539;p709;h00;h11;o05;o15;").over(1), 2);
        due("his own COSTUME is one", Checks.with("p409;h00;").over(1), 0);
    }

    // "how many PEOPLE there are less OFFICES that are HELD"
    private static void over() {
        OnlyInDisguise x = Checks.with(EIGHT);
        due("eight and none", x.over(0), 8);
        for (int f = 0; f < 5; f++) {
            x.holds(f, 7 - f);
            due("eight and " + (f + 1), x.over(0), 7 - f);
        }
        due("nobody", new OnlyInDisguise().over(0), 0);
        due("one and one", Checks.with("p009;h40;").over(0), 0);
        due("five and five", Checks.with("p009;p009;p009;p009;p009;h00;h11;h22;h33;h44;").over(0), 0);
    }

    // "how many twos of HELD OFFICES have one COSTUME"
    private static void like() {
        OnlyInDisguise x = Checks.with("p009;p009;p009;p009;p009;o09;o19;o29;o39;o49;");
        int[] twos = {0, 0, 1, 3, 6, 10};
        for (int held = 0; held <= 5; held++) {
            due("of " + held + " HELD", x.over(2), twos[held]);
            if (held < 5) {
                x.holds(held, held);
            }
        }
        x.wears(2, 8);
        due("four of five", x.over(2), 6);
        x.wears(4, 8);
        due("three and two", x.over(2), 4);
        x.wears(0, 7);
        due("two, two and one", x.over(2), 2);
        x.empties(4);
        due("of those that are HELD alone", x.over(2), 1);
        due("the last two", Checks.with("p009;p009;h30;h41;o34;").over(2), 1);
        due("the first and the last", Checks.with("p009;p009;h00;h41;o04;").over(2), 1);
    }

    // "the one who BEARS least beyond KNOWN, of several the least; -4"
    private static void closest() {
        due("nobody", new OnlyInDisguise().over(3), -4);
        due("nobody in office", Checks.with("p009;k099;").over(3), -4);
        due("the last one", Checks.with(EIGHT + "h47;").over(3), 7);
        OnlyInDisguise x = Checks.with("p009;p009;p009;h02;h11;h20;");
        due("all alike", x.over(3), 0);
        x.knows(2, 1);
        due("1 less", x.over(3), 2);
        x.knows(1, 1);
        due("two alike", x.over(3), 1);
        x.knows(2, 20);
        due("none beyond", x.over(3), 2);
        x.knows(1, 21);
        due("less than none beyond", x.over(3), 1);
        x.knows(2, 99);
        due("79 less", x.over(3), 2);
        due("an HONEST one, 15 of 15, by a MINISTER, 19 of 20",
            Checks.with("p009;p109;h00;h11;k019;k115;").over(3), 1);
        due("an HONEST one, 14 of 15, by a MINISTER, 19 of 20",
            Checks.with("p009;p109;h00;h11;k019;k114;").over(3), 0);
        due("a SWEEPER", Checks.with("p709;p009;h00;h11;k080;").over(3), 0);
    }

    private static void stable(String text, int want) {
        due("over(4) by '" + text + "'", Checks.with(text).over(4), want);
    }

    // "behind how many DAYS (0 .. 50) first nobody FALLS"
    private static void stableAtOnce() {
        stable("e0;", 0);
        stable("p009;k099;", 0);
        stable("p709;h00;k098;", 0);
        stable("p009;h00;k017;", 1);
        stable("p009;h00;k099;", 1);
    }

    // "in the next 10": ENEMIES of 9 bear 38; in COSTUMES 2 to 4 they show 1
    private static void stableByTen() {
        stable("p599;h20;k027;", 0);
        stable("p599;h20;k028;", 10);
        stable("p599;h20;k029;", 9);
        stable("p599;p599;h20;h31;k028;k118;", 20);
        stable("p599;p599;h20;h31;k028;k117;", 10);
        stable("p599;p599;h20;h31;k027;k118;", 0);
        stable("p599;p599;p599;h20;h31;h42;k028;k118;k208;", 30);
        stable("p599;p599;p599;h20;h31;h42;k028;k118;k207;", 20);
    }

    // DOGS of 9 bear 58; in COSTUMES 7 and 8 they show 1. The ENEMY of the
    // third has another as MATE (he falls 38 DAYS later), that one a TAILOR of
    // 5 (who falls 13 DAYS later): FALLS on DAYS 10, 20, 30, 40, 48, 50 and 61,
    // then on DAYS 9, 19, 29, 39, 47, 50 and 60.
    private static void stableToFifty() {
        String alone = "p499;p499;p599;p599;p599;h00;h11;h22;h33;h44;o08;o17;";
        stable(alone + "k018;k108;k228;k318;k408;", 50);
        stable(alone + "k018;k107;k228;k318;k408;", 40);
        stable(alone + "k019;k109;k229;k319;k409;", 49);
        String mates = "p499;p499;p595;p599;p599;p596;p259;h00;h11;h22;h33;h44;o08;o17;";
        stable(mates + "k018;k108;k228;k318;k408;", 50);
        stable(mates + "k019;k108;k229;k319;k409;", -4);
        stable("p001;p002;p003;p004;p005;p006;p007;p000;h00;", -4);
    }

    // Each is told of what there is now, whatever was asked or looked at ahead of it.
    private static void askedAnew() {
        OnlyInDisguise x = new OnlyInDisguise();
        x.image();
        Checks.tell(x, 0, "p709;p709;p709;p709;p709;p009;p009;p009;h05;");
        for (int twice = 0; twice < 2; twice++) {
            due("over(4)", x.over(4), 7);
            due("casts(-1)", x.casts(-1), 300);
            due("casts(4)", x.casts(4), 4);
            due("send(7)", x.send(7), 5);
            due("bestCostume(0, 7, 1)", x.bestCostume(0, 7, 1), 1);
        }
        x.knows(5, 17);
        due("over(4), KNOWN more", x.over(4), 1);
        due("send(1), KNOWN more", x.send(1), 5);
        x.restore();
        due("over(4) of nobody", x.over(4), 0);
        due("casts(-1) of nobody", x.casts(-1), 0);
        due("casts(0) of nobody", x.casts(0), -4);
        due("send(7) of nobody", x.send(7), -4);
        due("bestCostume(0, 7, 1) of nobody", x.bestCostume(0, 7, 1), 0);
        due("over(1) of nobody", x.over(1), 0);
    }

    // "Refused as told: -1." and of over() 1000000000 less that
    private static void refusedOver() {
        OnlyInDisguise x = new OnlyInDisguise();
        due("over(5)", x.over(5), 1000000001);
        due("over(-1)", x.over(-1), 1000000001);
        due("over, the greatest", x.over(Integer.MAX_VALUE), 1000000001);
        due("over, the least", x.over(Integer.MIN_VALUE), 1000000001);
    }
}
