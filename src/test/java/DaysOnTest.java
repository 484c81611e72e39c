/** Promises 13 to 18: days on. */
public final class DaysOnTest {
    private static final Checks CHECKS = new Checks("DaysOnTest");

    public static void main(String[] args) {
        following();
        refusals();
        beyondTheLastDay();
        theSixtiethDay();
        lasting();
        CHECKS.end();
    }

    private static void due(String call, long got, long want) {
        CHECKS.due(call, got, want);
    }

    private static void following() {
        OnlyInDisguise x = Checks.with("p001;p009;h00;");
        due("heldThen(0, 0)", x.heldThen(0, 0), 0);
        due("heldThen(0, 6)", x.heldThen(0, 6), 0);
        due("heldThen(0, 7)", x.heldThen(0, 7), 1);
        due("heldThen(0, 13)", x.heldThen(0, 13), 1);
        due("heldThen(0, 14)", x.heldThen(0, 14), -4);
        due("heldThen(1, 5)", x.heldThen(1, 5), -4);
        due("knownThen(0, 0)", x.knownThen(0, 0), 0);
        due("knownThen(0, 7)", x.knownThen(0, 7), 21);
        due("knownThen(0, 8)", x.knownThen(0, 8), 19);
        due("knownThen(1, 7)", x.knownThen(1, 7), 0);
        due("knownThen(1, 10)", x.knownThen(1, 10), 9);
        due("then(0, 0)", x.then(0, 0), 1);
        due("then(13, 0)", x.then(13, 0), 1);
        due("then(14, 0)", x.then(14, 0), 0);
        due("then(6, 1)", x.then(6, 1), 0);
        due("then(7, 1)", x.then(7, 1), 1);
        due("then(60, 1)", x.then(60, 1), 2);
        due("falls(0)", x.falls(0), 7);
        due("falls of one without office", x.falls(1), -4);
        due("empty(0)", x.empty(0), 14);
        due("empty(1)", x.empty(1), 0);
        due("all in mind: day", x.count(1), 0);
        due("all in mind: falls", x.count(2), 0);
        due("all in mind: known", x.count(4), 0);
        x.days(7);
        due("FALLS that were count", x.then(0, 1), 1);
        due("and those to come", x.then(7, 1), 2);
        OnlyInDisguise y = Checks.with("p709;p709;h21;h40;");
        due("bits of the offices", y.then(60, 0), 20);
    }

    private static void refusals() {
        OnlyInDisguise x = Checks.with("p009;h00;");
        int[] wrongDays = {-1, 61, Integer.MAX_VALUE, Integer.MIN_VALUE};
        for (int n : wrongDays) {
            due("heldThen(0, " + n + ")", x.heldThen(0, n), -1);
            due("knownThen(0, " + n + ")", x.knownThen(0, n), -1);
            due("then(" + n + ", 0)", x.then(n, 0), -1);
        }
        due("heldThen(0, 60)", x.heldThen(0, 60), -4);
        due("knownThen(0, 60)", x.knownThen(0, 60), 0);
        due("then(60, 0)", x.then(60, 0), 0);
        due("heldThen(5, 0)", x.heldThen(5, 0), -1);
        due("heldThen(-1, 0)", x.heldThen(-1, 0), -1);
        due("knownThen(1, 0)", x.knownThen(1, 0), -1);
        due("knownThen(-1, 0)", x.knownThen(-1, 0), -1);
        due("then(0, 2)", x.then(0, 2), -1);
        due("then(0, -1)", x.then(0, -1), -1);
        due("falls(1)", x.falls(1), -1);
        due("falls(-1)", x.falls(-1), -1);
        due("empty(5)", x.empty(5), -1);
        due("empty(-1)", x.empty(-1), -1);
        due("lasts(5, 0)", x.lasts(5, 0), -1);
        due("lasts(-1, 0)", x.lasts(-1, 0), -1);
        due("lasts(0, 1)", x.lasts(0, 1), -1);
        due("lasts(0, -1)", x.lasts(0, -1), -1);
    }

    private static void beyondTheLastDay() {
        OnlyInDisguise x = Checks.with("p329;d60;d60;d60;d60;d60;d60;d60;d60;d60;d60;d60;d60;d60;d60;d60;d60;h00;");
        x.days(2);
        x.holds(0, 0);
        x.knows(0, 0);
        x.days(37);
        x.holds(0, 0);
        x.knows(0, 0);
        due("day 999", x.count(1), 999);
        due("day 1000 is even", x.knownThen(0, 1), 6);
        due("day 1001 is odd", x.knownThen(0, 2), 14);
        due("he falls on day 1002", x.falls(0), 3);
        due("then(60, 1)", x.then(60, 1), x.count(2) + 1);
        due("he lasts", x.lasts(0, 0), 3);
    }

    // A dog of 9 beside his costume is known 1 more a day and bears 58; in a
    // common costume 0 more: the minister beside him puts his fall off.
    private static void theSixtiethDay() {
        OnlyInDisguise x = Checks.with("p499;p009;h00;h11;o08;o18;k118;");
        due("he falls on day 60", x.falls(0), 60);
        due("it is empty on day 60", x.empty(0), 60);
        x.knows(1, 17);
        due("he would fall on day 61", x.falls(0), -4);
        due("it would be empty on day 61", x.empty(0), -4);
        due("known then", x.knownThen(0, 60), 57);
    }

    private static void lasting() {
        OnlyInDisguise x = Checks.with("p499;p009;p709;p329;p629;h00;h11;o08;o18;k125;");
        due("a dog alone, not common", x.lasts(0, 0), 58);
        due("a dog in his costume's way", x.lasts(4, 0), 29);
        due("known too well", x.lasts(0, 1), 1);
        due("a sweeper", x.lasts(2, 2), 60);
        due("a widow from an odd day", x.lasts(0, 3), 3);
        due("a child above his figure", x.lasts(0, 4), 2);
        due("a child below his figure", Checks.with("p629;").lasts(1, 0), 1);
        x.knows(0, 57);
        due("known as he is", x.lasts(0, 0), 1);
        due("nothing changed", x.count(3), 3);
        x.knows(3, 1);
        due("a widow known 1, from an odd day", x.lasts(0, 3), 2);
        x.days(1);
        due("a widow known 1, from an even day", x.lasts(0, 3), 2);
        x.knows(3, 9);
        due("a widow known 9, from an even day", x.lasts(0, 3), 1);
        x.knows(3, 8);
        due("a widow known 8, from an even day", x.lasts(0, 3), 2);
    }
}
