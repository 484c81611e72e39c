/** Promises 24 to 28: what kind one is, who held it, two, odds. */
public final class WhatKindTest {
    private static final Checks CHECKS = new Checks("WhatKindTest");
    private static final int SKIP = Integer.MIN_VALUE;

    public static void main(String[] args) {
        kinds();
        figures();
        kindRefusals();
        holders();
        holderRefusals();
        twoWhoSpeak();
        odds();
        means();
        CHECKS.end();
    }

    private static void due(String call, long got, long want) {
        CHECKS.due(call, got, want);
    }

    private static int kindsBy(OnlyInDisguise x, int p, int... told) {
        Checks.fill(x, 0, 2, told);
        return x.whatIs(0, p, 0);
    }

    private static int figuresBy(OnlyInDisguise x, int p, int... told) {
        Checks.fill(x, 0, 2, told);
        return x.whatIs(0, p, 1);
    }

    private static void kinds() {
        OnlyInDisguise x = Checks.with("p009;h00;");
        due("3 a day in costume 0: minister, enemy", kindsBy(x, 0, 0, 3, 6), 1 | 32);
        due("6 a day: honest, widow of 0, child of 0", kindsBy(x, 0, 0, 6), 2 | 8 | 64);
        due("12 on the second day, then 11: a child, who forgets 1", kindsBy(x, 0, 0, 6, 12, 11), 64);
        due("nothing: a dog in his costume, a sweeper", kindsBy(x, 0, 0, 0), 16 | 128);
        due("skipped", kindsBy(x, 0, SKIP, SKIP, 6), 1 | 32);
        due("all skipped", kindsBy(x, 0, SKIP, SKIP), 255);
        due("nothing told", kindsBy(x, 0), 255);
        due("wrong from the start", kindsBy(x, 0, 1), 0);
        Checks.fill(x, 1, 0, -128, 3);
        due("bytes: the least is skipped", x.whatIs(1, 0, 0), 33);
        Checks.fill(x, 1, 0, -127, 3);
        due("bytes: another is not", x.whatIs(1, 0, 0), 0);
        Checks.fill(x, 1, 1, -32768, 3);
        due("shorts: the least is skipped", x.whatIs(1, 0, 0), 33);
        Checks.fill(x, 1, 1, -128, 3);
        due("shorts: that of bytes is not", x.whatIs(1, 0, 0), 0);
        Checks.fill(x, 1, 2, -32768, 3);
        due("ints: that of shorts is not", x.whatIs(1, 0, 0), 0);
        OnlyInDisguise y = Checks.with("p059;k050;");
        due("who forgets 2", kindsBy(y, 0, 50, 48), 1);
        due("who forgets 5", kindsBy(y, 0, 50, 45), 32);
        due("who forgets 9", kindsBy(y, 0, 50, 41), 128);
        due("who forgets 3", kindsBy(y, 0, 50, 47), 4 | 16);
        due("nothing changed", y.one(0, 0), 0);
        OnlyInDisguise far = Checks.with("p009;h00;");
        far.row(0, 0, 100);
        due("99 days on", far.whatIs(0, 0, 0), 16 | 128);
        far.put(0, 99, 1);
        due("99 days on, the last is wrong", far.whatIs(0, 0, 0), 0);
    }

    private static void figures() {
        OnlyInDisguise x = Checks.with("p259;h00;");
        due("1 a day: near costume 0", figuresBy(x, 0, 0, 1), 7);
        due("2 a day", figuresBy(x, 0, 0, 2), 8 | 16 | 32);
        due("4 a day: 9", figuresBy(x, 0, 0, 4), 512);
        due("5 a day: none", figuresBy(x, 0, 0, 5), 0);
        due("nothing told", figuresBy(x, 0), 1023);
        due("a minister's does not matter", figuresBy(Checks.with("p059;h00;"), 0, 0, 3), 1023);
        OnlyInDisguise w = Checks.with("p329;h00;");
        due("a widow of 5 on day 1", figuresBy(w, 0, SKIP, 11), 32);
        due("her figure stays", w.one(0, 1), 2);
    }

    private static void kindRefusals() {
        OnlyInDisguise x = Checks.with("p009;");
        due("shelf -1", x.whatIs(-1, 0, 0), -1);
        due("shelf 8", x.whatIs(8, 0, 0), -1);
        due("no such one", x.whatIs(0, 1, 0), -1);
        due("one -1", x.whatIs(0, -1, 0), -1);
        due("what 2", x.whatIs(0, 0, 2), -1);
        due("what -1", x.whatIs(0, 0, -1), -1);
        due("nothing there", x.whatIs(0, 0, 0), -11);
        x.keep(0, 1, 0, 0);
        due("one there", x.whatIs(0, 0, 0), -12);
        due("no such one is refused first", x.whatIs(0, 1, 0), -1);
    }

    private static int holdersBy(OnlyInDisguise x, int f, int... told) {
        Checks.fill(x, 0, 2, told);
        return x.whoHeld(0, f);
    }

    private static void holders() {
        OnlyInDisguise x = Checks.with("p009;p009;p709;k118;h12;");
        due("held on", holdersBy(x, 0, 1, 1), 1 | 4);
        due("empty behind a day", holdersBy(x, 0, 1, 0), 2);
        due("held at once by all", holdersBy(x, 0, 1), 7);
        due("empty at once by none", holdersBy(x, 0, 0), 0);
        due("2 is never so", holdersBy(x, 0, 2), 0);
        due("nothing told", holdersBy(x, 0), 7);
        due("skipped", holdersBy(x, 0, SKIP, 0), 2);
        Checks.fill(x, 1, 1, -32768, 0);
        due("shorts skipped", x.whoHeld(1, 0), 2);
        due("on day 7", holdersBy(x, 0, 1, SKIP, SKIP, SKIP, SKIP, SKIP, 1, 0), 1);
        due("nothing changed", x.count(3), 2);
        OnlyInDisguise mates = Checks.with("p001;p009;k019;h01;");
        due("the one who is put out follows", holdersBy(mates, 0, 1, 1), 3);
        OnlyInDisguise moved = Checks.with("p609;h10;o10;");
        due("his other office is empty: not common", holdersBy(moved, 0, 1, 1, 0), 1);
        OnlyInDisguise far = Checks.with("p709;p009;");
        far.row(0, 0, 100);
        for (int i = 0; i < 100; i++) {
            far.put(0, i, 1);
        }
        due("99 days on", far.whoHeld(0, 4), 1);
        due("nobody there", holdersBy(new OnlyInDisguise(), 0), 0);
    }

    private static void holderRefusals() {
        OnlyInDisguise x = new OnlyInDisguise();
        due("shelf -1", x.whoHeld(-1, 0), -1);
        due("shelf 8", x.whoHeld(8, 0), -1);
        due("office 5 ahead of nothing", x.whoHeld(0, 5), -1);
        due("office -1", x.whoHeld(0, -1), -1);
        due("nothing there", x.whoHeld(0, 0), -11);
        x.keep(0, 1, 0, 0);
        due("one there", x.whoHeld(0, 0), -12);
    }

    private static void twoWhoSpeak() {
        OnlyInDisguise x = Checks.with("p009;p009;p009;h00;h11;");
        due("both go on", x.two(0, 1, 5), 11);
        x.knows(0, 19);
        x.knows(1, 19);
        due("both go home", x.two(0, 1, 1), 0);
        x.knows(1, 0);
        due("the other goes on", x.two(0, 1, 1), 1);
        due("the one goes on", x.two(1, 0, 1), 10);
        x.knows(0, 9);
        x.knows(1, 9);
        due("all alike: the first", x.two(0, 1, 1), 0);
        x.knows(0, 7);
        x.knows(1, 7);
        due("known 10 is 1 less", x.two(0, 1, 1), 0);
        x.knows(0, 6);
        due("the one is known 9", x.two(0, 1, 1), 10);
        due("the other is known 9", x.two(1, 0, 1), 1);
        due("nothing changed", x.count(3), 3);
        OnlyInDisguise none = Checks.with("p001;p000;h00;h11;o10;k019;k117;");
        due("none is at rest", none.two(0, 1, 2), -4);
        due("n 0", x.two(0, 1, 0), -1);
        due("n 31", x.two(0, 1, 31), -1);
        due("n 30", x.two(0, 1, 30), 11);
        due("one twice", x.two(1, 1, 5), -1);
        due("no such one", x.two(0, 3, 5), -1);
        due("no such one, the first", x.two(3, 0, 5), -1);
        due("one -1", x.two(-1, 0, 5), -1);
        due("the one holds none", x.two(2, 0, 5), -3);
        due("the other holds none", x.two(0, 2, 5), -3);
        due("n is refused first", x.two(0, 2, 31), -1);
        due("one twice is refused first", x.two(2, 2, 5), -1);
    }

    private static void fraction(String name, OnlyInDisguise x, int f, int n, int t, long above, long below) {
        due(name + ", above", x.scandals(f, n, t, 0), above);
        due(name + ", below", x.scandals(f, n, t, 1), below);
    }

    private static void odds() {
        OnlyInDisguise x = Checks.with("p009;h00;k014;");
        fraction("no day", x, 0, 0, 2, 1, 1);
        fraction("no day, empty", x, 1, 0, 2, 0, 1);
        fraction("a scandal ahead of it is his fall", x, 0, 1, 3, 2, 3);
        fraction("he falls anyway", x, 0, 2, 3, 0, 1);
        x.knows(0, 9);
        fraction("no scandal may be", x, 0, 2, 4, 9, 16);
        fraction("in least terms", x, 0, 2, 2, 1, 4);
        x.knows(0, 0);
        fraction("both may be", x, 0, 2, 20, 1, 1);
        fraction("not all of three", x, 0, 3, 2, 7, 8);
        due("nothing changed", x.one(0, 2), 0);
        OnlyInDisguise dog = Checks.with("p499;h40;o49;k030;");
        fraction("five of seven may be", dog, 4, 7, 20, 639999933L, 640000000L);
        OnlyInDisguise mate = Checks.with("p001;p009;h00;k014;");
        fraction("his mate follows", mate, 0, 1, 3, 1, 1);
        OnlyInDisguise home = Checks.with("p001;p609;h00;k017;k106;");
        fraction("who holds none is not in it", home, 0, 1, 2, 1, 1);
        OnlyInDisguise top = Checks.with("p709;h00;k094;");
        fraction("99 is what a sweeper bears", top, 0, 1, 5, 4, 5);
        OnlyInDisguise full = Checks.with("p009;p009;p009;p009;p009;p009;p009;p009;h37;k714;");
        fraction("of eight", full, 3, 1, 7, 6, 7);
        due("f 5", x.scandals(5, 0, 2, 0), 1000000001L);
        due("f -1", x.scandals(-1, 0, 2, 0), 1000000001L);
        due("n 8", x.scandals(0, 8, 2, 0), 1000000001L);
        due("n -1", x.scandals(0, -1, 2, 0), 1000000001L);
        due("t 1", x.scandals(0, 1, 1, 0), 1000000001L);
        due("t 21", x.scandals(0, 1, 21, 0), 1000000001L);
        due("t 0", x.scandals(0, 1, 0, 0), 1000000001L);
        due("part 2", x.scandals(0, 1, 2, 2), 1000000001L);
        due("part -1", x.scandals(0, 1, 2, -1), 1000000001L);
    }

    private static void means() {
        OnlyInDisguise x = new OnlyInDisguise();
        due("nobody, above", x.mean(0), 0);
        due("nobody, below", x.mean(1), 1);
        x = Checks.with("p009;p009;p009;p009;");
        due("all 0, above", x.mean(0), 0);
        due("all 0, below", x.mean(1), 1);
        x.knows(0, 3);
        x.knows(3, 7);
        due("10 by 4, above", x.mean(0), 5);
        due("10 by 4, below", x.mean(1), 2);
        x.knows(1, 10);
        due("20 by 4, above", x.mean(0), 5);
        due("20 by 4, below", x.mean(1), 1);
        OnlyInDisguise full = Checks.with("p009;p009;p009;p009;p009;p009;p009;p009;k702;");
        due("2 by 8, above", full.mean(0), 1);
        due("2 by 8, below", full.mean(1), 4);
        due("part 2", x.mean(2), 1000000001L);
        due("part -1", x.mean(-1), 1000000001L);
    }
}
