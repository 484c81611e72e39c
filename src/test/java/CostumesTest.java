/** Promises 19 to 23: costumes, who should hold what. */
public final class CostumesTest {
    private static final Checks CHECKS = new Checks("CostumesTest");

    public static void main(String[] args) {
        bestCostumes();
        casting();
        sending();
        changingCostumes();
        plainAndOver();
        likeAndClosest();
        stable();
        CHECKS.end();
    }

    private static void due(String call, long got, long want) {
        CHECKS.due(call, got, want);
    }

    private static void bestCostumes() {
        // A child of 5 bears 7: below 5 he shows 9, from 5 on 6.
        OnlyInDisguise x = Checks.with("p659;h00;");
        due("nobody falls in 0 days", x.bestCostume(0, 0, 0), 0);
        due("the least that is not below him", x.bestCostume(0, 1, 0), 5);
        due("nobody falls by it", x.bestCostume(0, 1, 1), 0);
        due("he falls by any", x.bestCostume(0, 2, 0), 0);
        due("one falls by any", x.bestCostume(0, 2, 1), 1);
        due("another office does not matter", x.bestCostume(1, 1, 0), 0);
        due("there one falls", x.bestCostume(1, 1, 1), 1);
        due("nothing changed", x.office(0, 0), 0);
        due("the second may be best", Checks.with("p619;h20;").bestCostume(2, 1, 0), 1);
        due("the last may be best", Checks.with("p699;h20;").bestCostume(2, 1, 0), 9);
        OnlyInDisguise y = Checks.with("p479;p009;p659;h00;h11;k120;d01;h12;k200;");
        due("FALLS that were do not count", y.bestCostume(1, 1, 1), 0);
        due("a common costume keeps a child longer", y.bestCostume(1, 1, 0), 0);
        // A dog of 7 bears 54: in 7 he shows 0, in 5, 6, 8, 9 he shows 1.
        due("his own costume keeps a dog for ever", Checks.with("p479;h00;k001;").bestCostume(0, 60, 0), 7);
        due("one near it keeps him 52 days", Checks.with("p479;h00;k001;").bestCostume(0, 52, 0), 5);
        due("n 60", x.bestCostume(0, 60, 1), 1);
        due("n 61", x.bestCostume(0, 61, 0), -1);
        due("n -1", x.bestCostume(0, -1, 0), -1);
        due("f 5", x.bestCostume(5, 0, 0), -1);
        due("f -1", x.bestCostume(-1, 0, 0), -1);
        due("what 2", x.bestCostume(0, 0, 2), -1);
        due("what -1", x.bestCostume(0, 0, -1), -1);
    }

    private static void casting() {
        OnlyInDisguise x = new OnlyInDisguise();
        due("nobody: together", x.casts(-1), 0);
        due("nobody: office 4", x.casts(4), -4);
        // LASTS by office: the tailor 20 20 20 10 10, the minister 7, the dog 24 24 48 48 60.
        x = Checks.with("p209;p009;p449;");
        due("three: together", x.casts(-1), 87);
        int[] three = {0, 1, -4, -4, 2};
        for (int f = 0; f < 5; f++) {
            due("three: office " + f, x.casts(f), three[f]);
        }
        x = Checks.with("p709;p009;");
        due("the least first: together", x.casts(-1), 67);
        due("the least first: office 0", x.casts(0), 0);
        due("the least first: office 1", x.casts(1), 1);
        due("the least first: office 2", x.casts(2), -4);
        // The enemy lasts 7 in office 0, 10 in office 1, 20 from office 2 on.
        x = Checks.with("p509;p009;");
        due("not the least, if that costs: together", x.casts(-1), 27);
        due("not the least, if that costs: office 0", x.casts(0), 1);
        due("empty last: office 1", x.casts(1), -4);
        due("empty last: office 2", x.casts(2), 0);
        x = Checks.with("p009;p009;p009;p009;p009;p009;p009;p009;k019;k716;");
        due("eight for five: together", x.casts(-1), 35);
        int[] eight = {1, 2, 3, 4, 5};
        for (int f = 0; f < 5; f++) {
            due("eight for five: office " + f, x.casts(f), eight[f]);
        }
        due("nobody is held by it", x.count(3), 0);
        due("who holds one now does not matter", x.holds(0, 0), -4);
        due("eight again: office 0", x.casts(0), 1);
        due("casts(-2)", x.casts(-2), -1);
        due("casts(5)", x.casts(5), -1);
    }

    private static void sending() {
        OnlyInDisguise x = Checks.with("p009;p009;p009;h01;h10;k019;k119;");
        due("of two alike the least of PEOPLE", x.send(1), 0);
        due("nobody falls in 0 days", x.send(0), -4);
        x.knows(0, 0);
        due("who falls", x.send(1), 1);
        due("nothing changed", x.count(3), 3);
        x.knows(1, 0);
        due("nobody falls by then", x.send(1), -4);
        due("both fall, the least", x.send(60), 0);
        // Sent home, his mate does not follow: else the mate fell in his place.
        OnlyInDisguise y = Checks.with("p001;p169;h00;k019;k114;");
        due("it is empty then", y.send(3), 0);
        // The mate's fall comes behind his: to send the mate home is as good as nothing.
        OnlyInDisguise z = Checks.with("p001;p009;p709;h00;h11;h22;k019;k119;");
        due("of several the least", z.send(1), 0);
        due("send(61)", x.send(61), -1);
        due("send(-1)", x.send(-1), -1);
        due("send(60) of nobody", new OnlyInDisguise().send(60), -4);
    }

    private static void changingCostumes() {
        // A child of 2 bears 7: below 2 he shows 9, else 6.
        OnlyInDisguise x = Checks.with("p629;h10;");
        due("the first that helps", x.change(1), 12);
        due("he falls by any", x.change(2), -4);
        due("nobody falls in 0 days", x.change(0), -4);
        due("nothing changed", x.office(1, 0), 1);
        OnlyInDisguise y = Checks.with("p629;h00;");
        due("office 0 is the lesser", y.change(1), 2);
        y.wears(1, 9);
        due("the first of several", y.change(1), 1);
        OnlyInDisguise z = Checks.with("p629;p629;h00;h11;");
        due("one of two", z.change(1), 2);
        z.wears(0, 3);
        due("the other one", z.change(1), 12);
        OnlyInDisguise w = Checks.with("p629;h30;o30;o02;o10;o20;o40;");
        due("the later is the other", w.change(1), 3);
        due("change(61)", x.change(61), -1);
        due("change(-1)", x.change(-1), -1);
        due("change(60)", new OnlyInDisguise().change(60), -4);
    }

    private static void plainAndOver() {
        OnlyInDisguise x = Checks.with("p709;p439;p209;p779;h00;h11;");
        due("over", x.over(0), 2);
        due("plain", x.over(1), 9);
        OnlyInDisguise full = Checks.with("p709;p009;p009;p009;p009;p009;p009;p709;h07;");
        due("over of eight", full.over(0), 7);
        due("plain of eight", full.over(1), 129);
        due("send of eight", full.send(60), -4);
        due("over of nobody", new OnlyInDisguise().over(0), 0);
        due("plain of nobody", new OnlyInDisguise().over(1), 0);
        due("over(5)", x.over(5), 1000000001);
        due("over(-1)", x.over(-1), 1000000001);
    }

    private static void likeAndClosest() {
        OnlyInDisguise x = Checks.with("p009;p009;p009;p009;h00;h11;h22;h43;o13;o03;o23;");
        due("three alike, one empty with it", x.over(2), 3);
        x.wears(4, 3);
        due("four alike", x.over(2), 6);
        x.wears(0, 5);
        x.wears(4, 5);
        due("two and two", x.over(2), 2);
        due("closest of all alike", x.over(3), 0);
        x.knows(2, 1);
        due("closest by 1", x.over(3), 2);
        x.knows(1, 99);
        x.knows(0, 98);
        due("closest far beyond", x.over(3), 1);
        x.empties(1);
        due("who holds none is not looked at", x.over(3), 0);
        OnlyInDisguise y = Checks.with("p009;p649;h10;k013;");
        due("one who holds", y.over(3), 0);
        y.holds(0, 1);
        due("of several the least", y.over(3), 0);
        y.knows(0, 12);
        due("by what he bears", y.over(3), 1);
        y.empties(0);
        y.empties(1);
        due("nobody holds any", y.over(3), -4);
    }

    // Ministers, each the mate of the one before, fall every 7 days.
    private static void stable() {
        due("nobody at all", new OnlyInDisguise().over(4), 0);
        OnlyInDisguise x = Checks.with("p001;p002;p003;p004;p005;p006;p009;h00;");
        due("seven fall, the last on day 49", x.over(4), 49);
        x = Checks.with("p001;p002;p003;p004;p005;p006;p239;h00;o09;");
        due("the last on day 50", x.over(4), 50);
        x = Checks.with("p001;p002;p003;p004;p005;p236;p239;h00;o09;");
        due("the last on day 51", x.over(4), -4);
        x = Checks.with("p001;p002;p003;p004;p005;p006;p007;p000;h00;");
        due("a ring", x.over(4), -4);
        x = Checks.with("p599;h30;");
        due("quiet, though he falls later", x.over(4), 0);
        x.knows(0, 28);
        due("he falls on the tenth", x.over(4), 10);
        x.knows(0, 27);
        due("he falls on the eleventh", x.over(4), 0);
        due("nothing changed", x.count(1), 0);
    }
}
