/** Promises 1 to 12: the cabinet as told. */
public final class CabinetTest {
    private static final Checks CHECKS = new Checks("CabinetTest");

    public static void main(String[] args) {
        newObject();
        textComes();
        textFaultsOfForm();
        textFaultsOfSense();
        textOnWhatIsAhead();
        textRefusals();
        ones();
        chains();
        offices();
        showing();
        coming();
        holding();
        changing();
        daysPassing();
        fallsStopAt999();
        CHECKS.end();
    }

    private static void due(String call, long got, long want) {
        CHECKS.due(call, got, want);
    }

    private static void newObject() {
        OnlyInDisguise x = new OnlyInDisguise();
        for (int what = 0; what < 5; what++) {
            due("new: count(" + what + ")", x.count(what), 0);
        }
        for (int f = 0; f < 5; f++) {
            due("new: office(" + f + ", 0)", x.office(f, 0), f);
            due("new: office(" + f + ", 1)", x.office(f, 1), -4);
            due("new: office(" + f + ", 2)", x.office(f, 2), 0);
        }
        for (int d = 0; d < 8; d++) {
            due("new: cost(" + d + ")", x.cost(d), -11);
        }
        due("new: one(0, 0)", x.one(0, 0), -1);
        due("new: restore()", x.restore(), -3);
    }

    private static void textComes() {
        OnlyInDisguise x = new OnlyInDisguise();
        due("every letter", Checks.tell(x, 0, "p379;p029;h00;o01;k015;d02;h31;e0;"), 8);
        due("people of the text", x.count(0), 2);
        due("day of the text", x.count(1), 2);
        due("falls of the text", x.count(2), 1);
        due("held of the text", x.count(3), 8);
        due("kind of the text", x.one(0, 0), 3);
        due("figure of the text", x.one(0, 1), 7);
        due("known of the text", x.one(0, 2), 28);
        due("mate of the text", x.one(0, 3), 9);
        due("costume of the text", x.office(0, 0), 1);
        due("the row stays", x.element(0, 0), 'p');
        due("told again", x.cabinet(0), 8);
        due("two more", x.count(0), 4);
        due("e of an empty office", Checks.tell(x, 0, "e2;"), 1);
        due("e of one that is held", Checks.tell(x, 0, "e3;"), 1);
        due("it is empty", x.office(3, 1), -4);
        due("h moves one", Checks.tell(x, 0, "h02;h12;"), 2);
        due("left empty", x.office(0, 1), -4);
        due("held now", x.office(1, 1), 2);
        due("known 99", Checks.tell(x, 0, "k399;"), 1);
        due("known is 99", x.one(3, 2), 99);
        due("mate who is not there", Checks.tell(x, 0, "p007;"), 1);
        due("mate is 7", x.one(4, 3), 7);
    }

    private static void textFaultsOfForm() {
        String[] texts = {"", "p", "p0", "p00", "p009", "x", "P009;", "p00;", "p0090;", "e0;e", "e0;;", "e0; ",
            "d1;", "d123;", "k00;", "k0000;", "o0;", "o000;", "h0;", "h000;", "e;", "e00;", ";", "p-09;", "p809;x",
            "e5;h", "p00/;", "p00:;"};
        int[] places = {0, 1, 2, 3, 4, 0, 0, 3, 4, 4, 3, 3,
            2, 3, 3, 4, 2, 3, 2, 3, 1, 2, 0, 1, 5,
            4, 3, 3};
        for (int i = 0; i < texts.length; i++) {
            OnlyInDisguise x = new OnlyInDisguise();
            due("form of '" + texts[i] + "'", Checks.tell(x, 0, texts[i]), -1000 - places[i]);
            due("nothing comes of '" + texts[i] + "'", x.count(0), 0);
        }
        OnlyInDisguise x = new OnlyInDisguise();
        Checks.fill(x, 0, 0, 0, 0, 0);
        due("bytes of 0", x.cabinet(0), -1000);
        Checks.fill(x, 0, 0, 'e', '0' - 256, ';' + 256);
        due("bytes keep their lowest bits", x.cabinet(0), 1);
        Checks.fill(x, 0, 0, 'e', '0', ';' + 128);
        due("a byte below 0", x.cabinet(0), -1002);
    }

    private static void textFaultsOfSense() {
        String[] texts = {"p809;", "p909;", "p008;", "o50;", "h00;", "p009;h50;", "p009;h01;", "e5;", "k000;",
            "p009;k100;", "d00;", "d61;", "d99;", "e0;p008;", "p009;e5;o50;"};
        int[] places = {0, 0, 0, 0, 0, 5, 5, 0, 0, 5, 0, 0, 0, 3, 5};
        for (int i = 0; i < texts.length; i++) {
            OnlyInDisguise x = new OnlyInDisguise();
            due("sense of '" + texts[i] + "'", Checks.tell(x, 0, texts[i]), -2000 - places[i]);
            due("nothing comes of '" + texts[i] + "'", x.count(0), 0);
        }
        OnlyInDisguise x = new OnlyInDisguise();
        String eight = "p009;p009;p009;p009;p009;p009;p009;p009;";
        due("a ninth", Checks.tell(x, 0, eight + "p009;"), -2040);
        due("eight", Checks.tell(x, 0, eight), 8);
        due("one over", Checks.tell(x, 0, "p009;"), -2000);
    }

    private static void textOnWhatIsAhead() {
        OnlyInDisguise x = new OnlyInDisguise();
        String sixteen = "d60;d60;d60;d60;d60;d60;d60;d60;d60;d60;d60;d60;d60;d60;d60;d60;";
        due("one day too many", Checks.tell(x, 0, sixteen + "d39;d01;"), -2068);
        due("none of them goes", x.count(1), 0);
        due("to the last day", Checks.tell(x, 0, sixteen + "d39;"), 17);
        due("day 999", x.count(1), 999);
        due("no day more", Checks.tell(x, 0, "d01;"), -2000);
        due("d60 is a number", Checks.tell(new OnlyInDisguise(), 0, "d60;"), 1);
    }

    private static void textRefusals() {
        OnlyInDisguise x = new OnlyInDisguise();
        due("cabinet(-1)", x.cabinet(-1), -1);
        due("cabinet(8)", x.cabinet(8), -1);
        due("cabinet of nothing", x.cabinet(0), -11);
        x.keep(0, 1, 0, 0);
        due("cabinet of one", x.cabinet(0), -12);
        Checks.fill(x, 0, 1, 'e', '0', ';');
        due("cabinet of shorts", x.cabinet(0), -12);
        Checks.fill(x, 0, 2, 'e', '0', ';');
        due("cabinet of ints", x.cabinet(0), -12);
    }

    private static void ones() {
        OnlyInDisguise x = Checks.with("p059;p159;p259;p359;p459;p559;p659;p759;h36;k012;");
        int[] bears = {20, 15, 25, 15, 50, 30, 7, 99};
        int[] forgets = {2, 1, 3, 0, 3, 5, 1, 9};
        for (int p = 0; p < 8; p++) {
            due("one(" + p + ", 0)", x.one(p, 0), p);
            due("one(" + p + ", 1)", x.one(p, 1), 5);
            due("one(" + p + ", 2)", x.one(p, 2), p == 0 ? 12 : 0);
            due("one(" + p + ", 3)", x.one(p, 3), 9);
            due("one(" + p + ", 4)", x.one(p, 4), p == 6 ? 3 : -4);
            due("one(" + p + ", 5)", x.one(p, 5), bears[p]);
            due("one(" + p + ", 6)", x.one(p, 6), forgets[p]);
            due("one(" + p + ", 7)", x.one(p, 7), 1);
        }
        due("one(8, 0)", x.one(8, 0), -1);
        due("one(-1, 0)", x.one(-1, 0), -1);
        due("one(0, 8)", x.one(0, 8), -1);
        due("one(0, -1)", x.one(0, -1), -1);
        OnlyInDisguise y = Checks.with("p209;p409;p509;");
        due("a tailor of 0 bears", y.one(0, 5), 20);
        due("a dog of 0 bears", y.one(1, 5), 40);
        due("an enemy of 0 bears", y.one(2, 5), 20);
        due("an enemy of 0 forgets", y.one(2, 6), 0);
        due("one(3, 0)", y.one(3, 0), -1);
    }

    private static void chains() {
        OnlyInDisguise x = Checks.with("p001;p002;p001;p003;p006;p009;");
        int[] chains = {3, 2, 2, 1, 1, 1};
        for (int p = 0; p < 6; p++) {
            due("chain of " + p, x.one(p, 7), chains[p]);
        }
        x.marries(5, 0);
        due("a chain of four", x.one(5, 7), 4);
        OnlyInDisguise all = Checks.with("p001;p002;p003;p004;p005;p006;p007;p000;");
        due("a ring of eight", all.one(4, 7), 8);
    }

    private static void offices() {
        OnlyInDisguise x = Checks.with("p009;p009;h00;h11;o13;o03;o43;");
        due("office(0, 0)", x.office(0, 0), 3);
        due("office(0, 1)", x.office(0, 1), 0);
        due("office(2, 1)", x.office(2, 1), -4);
        due("common", x.office(0, 2), 1);
        due("common, itself empty", x.office(4, 2), 1);
        due("not common", x.office(2, 2), 0);
        x.empties(0);
        due("one of them held is not common", x.office(1, 2), 0);
        due("office(5, 0)", x.office(5, 0), -1);
        due("office(-1, 0)", x.office(-1, 0), -1);
        due("office(0, 3)", x.office(0, 3), -1);
        due("office(0, -1)", x.office(0, -1), -1);
    }

    private static void showing() {
        OnlyInDisguise x = Checks.with("p049;p149;p249;p349;p449;p549;p649;p749;");
        int[][] odd = {
            {3, 3, 3, 3, 3, 3, 3, 3, 3, 3},
            {6, 6, 6, 6, 6, 6, 6, 6, 6, 6},
            {2, 2, 1, 1, 1, 1, 1, 2, 2, 2},
            {10, 10, 10, 10, 10, 10, 10, 10, 10, 10},
            {2, 2, 1, 1, 0, 1, 1, 2, 2, 2},
            {3, 2, 1, 1, 1, 1, 1, 1, 1, 1},
            {9, 9, 9, 9, 6, 6, 6, 6, 6, 6},
            {0, 0, 0, 0, 0, 0, 0, 0, 0, 0}};
        for (int p = 0; p < 8; p++) {
            for (int k = 0; k < 10; k++) {
                due("shows(" + p + ", " + k + ")", x.shows(p, k), odd[p][k]);
            }
        }
        x.days(1);
        for (int p = 0; p < 8; p++) {
            due("on an even day shows(" + p + ", 9)", x.shows(p, 9), p == 3 ? 6 : odd[p][9]);
        }
        x.holds(0, 0);
        x.holds(1, 1);
        x.wears(1, 0);
        due("shows does not mind what is common", x.shows(0, 0), 3);
        due("far from his figure", Checks.with("p209;").shows(0, 9), 4);
        due("shows(8, 0)", x.shows(8, 0), -1);
        due("shows(-1, 0)", x.shows(-1, 0), -1);
        due("shows(0, 10)", x.shows(0, 10), -1);
        due("shows(0, -1)", x.shows(0, -1), -1);
    }

    private static void coming() {
        OnlyInDisguise x = new OnlyInDisguise();
        due("comes(8, 8)", x.comes(8, 8), -1);
        due("comes(-1, 0)", x.comes(-1, 0), -1);
        due("mate 8 ahead of nothing", x.comes(0, 8), -1);
        due("mate 10", x.comes(0, 10), -1);
        due("mate -1", x.comes(0, -1), -1);
        due("nothing there", x.comes(0, 9), -11);
        x.row(0, 0, 3);
        due("a row there", x.comes(0, 9), -12);
        x.keep(0, 1, 5, 6);
        due("the first", x.comes(0, 7), 0);
        due("his kind", x.one(0, 0), 5);
        due("his figure", x.one(0, 1), 6);
        due("his mate", x.one(0, 3), 7);
        due("known at first", x.one(0, 2), 0);
        due("without office", x.one(0, 4), -4);
        due("the shelf keeps him", x.cost(0), 8);
        for (int p = 1; p < 8; p++) {
            due("the next", x.comes(0, 9), p);
        }
        due("no room", x.comes(0, 9), -2);
        due("nothing ahead of no room", x.comes(1, 9), -11);
        due("mate ahead of no room", x.comes(0, 8), -1);
    }

    private static void holding() {
        OnlyInDisguise x = Checks.with("p009;p009;");
        due("nobody did", x.holds(0, 0), -4);
        due("he did himself", x.holds(0, 0), 0);
        due("the other did", x.holds(0, 1), 0);
        due("he is out", x.one(0, 4), -4);
        due("he moves", x.holds(4, 1), -4);
        due("his old one is empty", x.office(0, 1), -4);
        due("his new one", x.one(1, 4), 4);
        due("holds(5, 0)", x.holds(5, 0), -1);
        due("holds(-1, 0)", x.holds(-1, 0), -1);
        due("holds(0, 2)", x.holds(0, 2), -1);
        due("holds(0, -1)", x.holds(0, -1), -1);
        due("nothing changed", x.count(3), 16);
        due("empties(4)", x.empties(4), 1);
        due("it is empty", x.office(4, 1), -4);
        due("he is out", x.one(1, 4), -4);
        due("empties(4) again", x.empties(4), -3);
        due("empties(5)", x.empties(5), -1);
        due("empties(-1)", x.empties(-1), -1);
    }

    private static void changing() {
        OnlyInDisguise x = Checks.with("p009;");
        due("wears(3, 9)", x.wears(3, 9), 3);
        due("wears(3, 0)", x.wears(3, 0), 9);
        due("office(3, 0)", x.office(3, 0), 0);
        due("wears(5, 0)", x.wears(5, 0), -1);
        due("wears(-1, 0)", x.wears(-1, 0), -1);
        due("wears(0, 10)", x.wears(0, 10), -1);
        due("wears(0, -1)", x.wears(0, -1), -1);
        due("office(0, 0)", x.office(0, 0), 0);
        due("knows(0, 99)", x.knows(0, 99), 0);
        due("knows(0, 0)", x.knows(0, 0), 99);
        due("knows(0, 100)", x.knows(0, 100), -1);
        due("knows(0, -1)", x.knows(0, -1), -1);
        due("knows(1, 0)", x.knows(1, 0), -1);
        due("knows(-1, 0)", x.knows(-1, 0), -1);
        due("marries(0, 7)", x.marries(0, 7), 9);
        due("marries(0, 0)", x.marries(0, 0), 7);
        due("marries(0, 9)", x.marries(0, 9), 0);
        due("marries(0, 8)", x.marries(0, 8), -1);
        due("marries(0, 10)", x.marries(0, 10), -1);
        due("marries(0, -1)", x.marries(0, -1), -1);
        due("marries(1, 0)", x.marries(1, 0), -1);
        due("his mate", x.one(0, 3), 9);
    }

    private static void daysPassing() {
        OnlyInDisguise x = Checks.with("p001;p009;h00;k129;");
        due("days(0)", x.days(0), -1);
        due("days(61)", x.days(61), -1);
        due("days(-1)", x.days(-1), -1);
        due("six days", x.days(6), 0);
        due("known 18", x.one(0, 2), 18);
        due("forgot 12", x.one(1, 2), 17);
        due("he falls on the seventh", x.days(1), 1);
        due("his mate follows", x.office(0, 1), 1);
        due("known stays", x.one(0, 2), 21);
        due("the mate falls, nobody follows", x.days(2), 2);
        due("empty", x.office(0, 1), -4);
        due("known 21, fallen", x.one(1, 2), 21);
        due("forgets to 0 at least, all FALLS are told", x.days(60), 2);
        due("known 0", x.one(0, 2), 0);

        OnlyInDisguise y = Checks.with("p001;p002;p009;h00;h11;k019;k119;");
        due("who holds an office by then follows nobody", y.days(1), 2);
        due("office 0 is empty", y.office(0, 1), -4);
        due("the mate of the second follows", y.office(1, 1), 2);

        OnlyInDisguise z = Checks.with("p003;p003;p009;p009;h00;h11;k019;k119;");
        z.days(1);
        due("the first takes the mate of both", z.office(0, 1), 3);
        due("none is left for the second", z.office(1, 1), -4);

        OnlyInDisguise k = Checks.with("p001;p109;h00;k019;k116;");
        k.days(1);
        due("a mate who is known too well", k.office(0, 1), -4);
        k = Checks.with("p001;p109;h00;k019;k115;");
        k.days(1);
        due("a mate who has forgotten enough", k.office(0, 1), 1);
        k = Checks.with("p000;h00;k019;");
        k.days(1);
        due("his own mate", k.office(0, 1), -4);

        OnlyInDisguise c = Checks.with("p149;p349;p549;h00;h11;h22;o15;o05;o25;");
        c.days(1);
        due("an honest one in a common costume", c.one(0, 2), 3);
        due("a widow in a common costume", c.one(1, 2), 5);
        due("an enemy in a common costume", c.one(2, 2), 0);

        OnlyInDisguise s = Checks.with("p799;p749;h00;k099;");
        due("one known 99 falls", s.days(1), 1);
        OnlyInDisguise w = Checks.with("p499;p349;h30;k057;h41;k114;");
        w.days(1);
        due("both fall", w.count(2), 2);
        due("99 at most", Checks.with("p399;h00;k098;d01;").one(0, 2), 99);

        OnlyInDisguise last = Checks.with("d60;d60;d60;d60;d60;d60;d60;d60;d60;d60;d60;d60;d60;d60;d60;d60;");
        due("days(40) too many", last.days(40), -3);
        due("none of them goes", last.count(1), 960);
        due("days(0) is refused first", last.days(0), -1);
        due("days(39)", last.days(39), 0);
        due("day 999", last.count(1), 999);
        due("no day more", last.days(1), -3);
    }

    private static void fallsStopAt999() {
        OnlyInDisguise x = Checks.with("p009;p009;p009;p009;p009;");
        String fiveFall = "h00;k020;h11;k120;h22;k220;h33;k320;h44;k420;d01;";
        Checks.tell(x, 0, fiveFall + fiveFall);
        for (int i = 1; i < 99; i++) {
            x.cabinet(0);
        }
        due("990 have fallen", x.count(2), 990);
        x.cabinet(0);
        due("999 at most", x.count(2), 999);
        x.holds(0, 0);
        x.knows(0, 14);
        due("in mind, too", x.then(60, 1), 999);
        due("no FALLS more", x.bestCostume(0, 60, 1), 0);
        due("but he falls", x.falls(0), 2);
        due("and it is stable behind that", x.over(4), 2);
        due("days tells 999", x.days(2), 999);
    }
}
