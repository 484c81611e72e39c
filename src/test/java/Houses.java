/** Objects to try refused calls on, each made anew, so that none is used for more than 512 calls. */
final class Houses {
    /** How an object is made. */
    interface Make {
        OnlyInDisguise anew();
    }

    // What stands on which SHELF of full() and few().
    static final int NOTHING = 0;
    static final int ENEMY_OF_5 = 1;
    static final int HONEST_OF_6 = 2;
    static final int BYTES = 3;
    static final int SHORTS = 4;
    static final int INTS = 5;
    static final int EMPTY_ROW = 6;
    static final int TEXT = 7;

    static final Make BARE = Houses::bare;
    static final Make FULL = Houses::full;
    static final Make FEW = Houses::few;
    static final Make LAST_DAY = () -> late(999);
    static final Make DAY_960 = () -> late(960);

    private static final String DAYS_900 = "d60;d60;d60;d60;d60;d60;d60;d60;d60;d60;d60;d60;d60;d60;d60;";

    private Houses() {
    }

    private static OnlyInDisguise bare() {
        return new OnlyInDisguise();
    }

    /** Eight PEOPLE, one of each KIND; 2, 4 and 7 HOLD OFFICES 1, 2 and 0; an IMAGE that is not as it is now. */
    private static OnlyInDisguise full() {
        OnlyInDisguise x = Checks.with("p051;p152;p253;p359;p459;p559;p659;p759;h00;h11;h24;o14;k012;d03;");
        x.image();
        x.holds(0, 7);
        x.wears(3, 4);
        x.knows(5, 33);
        x.marries(6, 0);
        x.days(1);
        stock(x);
        return x;
    }

    /** Two PEOPLE, the second in OFFICE 4; no IMAGE. */
    private static OnlyInDisguise few() {
        OnlyInDisguise x = Checks.with("p031;p249;h41;k007;k105;d01;");
        stock(x);
        return x;
    }

    /** A DAY from 900 to 999, with two PEOPLE, the first in OFFICE 0. */
    static OnlyInDisguise late(int day) {
        OnlyInDisguise x = Checks.with(DAYS_900 + "p709;p009;h00;");
        if (day > 900 + 60) {
            x.days(60);
            x.days(day - 960);
        } else if (day > 900) {
            x.days(day - 900);
        }
        return x;
    }

    private static void stock(OnlyInDisguise x) {
        x.keep(ENEMY_OF_5, 1, 5, 5);
        x.keep(HONEST_OF_6, 1, 1, 6);
        Checks.fill(x, BYTES, 0, 1, -128, 127, 9);
        Checks.fill(x, SHORTS, 1, 1, -32768, 300);
        Checks.fill(x, INTS, 2, 70000, Integer.MIN_VALUE, 3);
        x.row(EMPTY_ROW, 0, 0);
    }
}
