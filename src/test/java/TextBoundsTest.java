/**
 * The boundaries of THE TEXT of a CABINET, a test for each sentence that names
 * one. What a text with a FAULT leaves behind is asked for each time.
 */
public final class TextBoundsTest {
    private static final Checks CHECKS = new Checks("TextBoundsTest");
    private static final String[] STATEMENTS = {"p000;", "o00;", "h00;", "e0;", "k000;", "d01;"};

    public static void main(String[] args) {
        anyByteInFirstPlace();
        anyByteInAnyPlace();
        somethingLacks();
        justAsManyDigits();
        noStatement();
        fullRows();
        mostStatements();
        firstKindAheadOfSecond();
        firstOfSeveral();
        digitsOfOne();
        digitsOfOffices();
        digitsOfHolders();
        digitsOfKnown();
        digitsOfDays();
        lastDay();
        noRoom();
        eachOnWhatThoseAheadMade();
        allOfItComes();
        anEmptyOfficeIsEmptied();
        oneOfficeForOne();
        theRowStays();
        rowsOfBytesAlone();
        lowestBits();
        CHECKS.end();
    }

    private static void due(String call, long got, long want) {
        CHECKS.due(call, got, want);
    }

    /** A house with a text on SHELF 0. */
    private static Houses.Make withText(Houses.Make house, String text) {
        return () -> {
            OnlyInDisguise x = house.anew();
            x.row(0, 0, text.length());
            for (int i = 0; i < text.length(); i++) {
                x.put(0, i, text.charAt(i));
            }
            return x;
        };
    }

    private static void faulty(String text, int kind, int place) {
        CHECKS.still("'" + text + "'", withText(Houses.FEW, text), -1000 * kind - place, x -> x.cabinet(0));
    }

    private static void sound(String text, int statements) {
        due("'" + text + "'", withText(Houses.FEW, text).anew().cabinet(0), statements);
    }

    private static String times(int n, String text) {
        return text.repeat(n);
    }

    // "the place of the first byte with which no CABINET can go on": the letter.
    private static void anyByteInFirstPlace() {
        for (int sign = 0; sign < 256; sign++) {
            String text = (char) sign + "";
            faulty(text, 1, "ohpekd".indexOf(sign) >= 0 ? 1 : 0);
            faulty("e0;" + text, 1, "ohpekd".indexOf(sign) >= 0 ? 4 : 3);
        }
    }

    // The same of each place behind the letter: digits where digits are told, then ";".
    private static void anyByteInAnyPlace() {
        for (String statement : STATEMENTS) {
            int last = statement.length() - 1;
            for (int i = 1; i <= last; i++) {
                for (int sign = 0; sign < 256; sign++) {
                    boolean fits = i == last ? sign == ';' : sign >= '0' && sign <= '9';
                    String text = statement.substring(0, i) + (char) sign;
                    String rest = statement.substring(i + 1);
                    if (!fits) {
                        faulty(text + rest, 1, i);
                        faulty("e0;" + text + rest, 1, 3 + i);
                    } else if (i < last) {
                        faulty(text, 1, i + 1);
                    }
                }
            }
        }
    }

    // "(the end, if something lacks)"
    private static void somethingLacks() {
        for (String statement : STATEMENTS) {
            for (int i = 1; i < statement.length(); i++) {
                faulty(statement.substring(0, i), 1, i);
                faulty("p009;" + statement.substring(0, i), 1, 5 + i);
            }
            sound(statement, 1);
        }
    }

    // "numbers in THE TEXT have just as many digits as told"
    private static void justAsManyDigits() {
        for (String statement : STATEMENTS) {
            int last = statement.length() - 1;
            faulty(statement.substring(0, last) + "0;", 1, last);
            faulty(statement.substring(0, last - 1) + ";", 1, last - 1);
        }
        faulty("d1;", 1, 2);
        faulty("d001;", 1, 3);
        faulty("k07;", 1, 3);
        faulty("k0007;", 1, 4);
        faulty("p10;", 1, 3);
        faulty("o010;", 1, 3);
    }

    // "STATEMENTS, each with ";" behind, one at least"
    private static void noStatement() {
        faulty("", 1, 0);
        faulty(";", 1, 0);
        faulty("e0;;", 1, 3);
        sound("e0;", 1);
        sound("e0;e0;", 2);
    }

    // A ROW has 100 elements at most: the places of FAULTS at its end.
    private static void fullRows() {
        sound(times(25, "o00;"), 25);
        faulty(times(24, "o00;") + "e0;e", 1, 100);
        faulty(times(24, "o00;") + "e0;;", 1, 99);
        faulty(times(24, "o00;") + "o00:", 1, 99);
        faulty(times(24, "o00;") + "o00", 1, 99);
        faulty(times(24, "o00;") + "o50;", 2, 96);
        faulty(times(22, "o00;") + "e0;e0;e0;e5;", 2, 97);
    }

    // "how many STATEMENTS": the most that a ROW has room for, and one.
    private static void mostStatements() {
        sound(times(33, "e0;"), 33);
        sound(times(32, "e0;"), 32);
        sound("d60;", 1);
    }

    // "FAULT: kind 1 ...; else kind 2"
    private static void firstKindAheadOfSecond() {
        faulty("p809;x", 1, 5);
        faulty("e5;e", 1, 4);
        faulty("h09;e5;d61;k900;o90;p008", 1, 24);
        faulty("d00", 1, 3);
        faulty("p88x", 1, 3);
        faulty("p888", 1, 4);
        faulty("p888;", 2, 0);
    }

    // "the letter of the first STATEMENT that is not as it must be"
    private static void firstOfSeveral() {
        faulty("e5;e9;", 2, 0);
        faulty("e0;e5;h99;", 2, 3);
        faulty("p009;o00;e0;k000;d01;h09;d61;", 2, 21);
        faulty("d61;d00;", 2, 0);
        faulty("d01;d00;d61;", 2, 4);
    }

    // "p" KIND, FIGURE, MATE (a digit each; MATE 8 can not be)
    private static void digitsOfOne() {
        for (int digit = 0; digit < 10; digit++) {
            String kind = "p" + digit + "09;";
            String figure = "p0" + digit + "9;";
            String mate = "p00" + digit + ";";
            if (digit < 8) {
                sound(kind, 1);
                OnlyInDisguise x = Checks.with(kind);
                due("KIND of " + kind, x.one(0, 0), digit);
            } else {
                faulty(kind, 2, 0);
            }
            sound(figure, 1);
            due("FIGURE of " + figure, Checks.with(figure).one(0, 1), digit);
            if (digit != 8) {
                sound(mate, 1);
                due("MATE of " + mate, Checks.with(mate).one(0, 3), digit);
            } else {
                faulty(mate, 2, 0);
            }
            due("KNOWN at first", Checks.with(figure).one(0, 2), 0);
        }
    }

    // "o" an OFFICE, COSTUME (a digit each); "e" an OFFICE (a digit)
    private static void digitsOfOffices() {
        for (int digit = 0; digit < 10; digit++) {
            String office = "o" + digit + "7;";
            String empty = "e" + digit + ";";
            if (digit < 5) {
                sound(office, 1);
                sound(empty, 1);
                due("COSTUME by " + office, Checks.with(office).office(digit, 0), 7);
                due("empty by " + empty, Checks.with("p009;h" + digit + "0;" + empty).count(3), 0);
            } else {
                faulty(office, 2, 0);
                faulty(empty, 2, 0);
                faulty("h" + digit + "0;", 2, 0);
            }
            due("COSTUME " + digit, Checks.with("o3" + digit + ";").office(3, 0), digit);
        }
    }

    // "h" an OFFICE, one of PEOPLE (a digit each): there are two
    private static void digitsOfHolders() {
        for (int digit = 0; digit < 10; digit++) {
            String holder = "h4" + digit + ";";
            if (digit < 2) {
                sound(holder, 1);
            } else {
                faulty(holder, 2, 0);
            }
        }
        String eight = times(8, "p009;");
        due("the eighth", Checks.with(eight + "h47;").office(4, 1), 7);
        due("behind the eighth", Checks.tell(new OnlyInDisguise(), 0, eight + "h48;"), -2040);
        due("the last of PEOPLE that can be told", Checks.tell(new OnlyInDisguise(), 0, eight + "h49;"), -2040);
        due("of nobody", Checks.tell(new OnlyInDisguise(), 0, "h00;"), -2000);
    }

    // "k" one of PEOPLE (a digit), KNOWN (2 digits): 0 .. 99
    private static void digitsOfKnown() {
        for (int digit = 0; digit < 10; digit++) {
            String known = "k" + digit + "50;";
            if (digit < 2) {
                sound(known, 1);
            } else {
                faulty(known, 2, 0);
            }
        }
        for (int known = 0; known < 100; known++) {
            String text = "p009;k0" + known / 10 + known % 10 + ";";
            due("KNOWN by " + text, Checks.with(text).one(0, 2), known);
        }
        due("of nobody", Checks.tell(new OnlyInDisguise(), 0, "k000;"), -2000);
    }

    // "d" DAYS (2 digits, 1 .. 60)
    private static void digitsOfDays() {
        for (int days = 0; days < 100; days++) {
            String text = "d" + days / 10 + days % 10 + ";";
            if (days >= 1 && days <= 60) {
                sound(text, 1);
                due("DAY by " + text, Checks.with(text).count(1), days);
            } else {
                faulty(text, 2, 0);
            }
        }
    }

    private static void onDay(int day, String text, long want, int dayThen) {
        OnlyInDisguise x = withText(() -> Houses.late(day), text).anew();
        due("on DAY " + day + " '" + text + "'", x.cabinet(0), want);
        due("DAY behind it", x.count(1), dayThen);
        due("OFFICES HELD behind it", x.count(3), 1);
    }

    // "in THE TEXT kind 2, if DAY and n together are above 999; none of them goes then"
    private static void lastDay() {
        onDay(939, "d60;", 1, 999);
        onDay(940, "d60;", -2000, 940);
        onDay(940, "d59;", 1, 999);
        onDay(998, "d01;", 1, 999);
        onDay(998, "d02;", -2000, 998);
        onDay(999, "d01;", -2000, 999);
        onDay(999, "d60;", -2000, 999);
        onDay(998, "d01;d01;", -2004, 998);
        onDay(997, "d01;d01;", 2, 999);
        onDay(998, "e0;d02;", -2003, 998);
        CHECKS.still("nothing goes", withText(Houses.LAST_DAY, "e0;k050;d01;"), -2008, x -> x.cabinet(0));
    }

    // "no room": two are there
    private static void noRoom() {
        sound(times(6, "p119;"), 6);
        faulty(times(7, "p119;"), 2, 30);
        faulty(times(6, "p119;") + "p809;", 2, 30);
        CHECKS.still("in a full house", withText(Houses.FULL, "e1;p009;"), -2003, x -> x.cabinet(0));
        OnlyInDisguise x = Checks.with(times(8, "p009;"));
        due("eight", x.count(0), 8);
        due("a ninth", Checks.tell(x, 0, "p009;"), -2000);
        due("eight behind it", x.count(0), 8);
        due("what needs no room", Checks.tell(x, 0, "e0;"), 1);
    }

    // "each on what those ahead of it made"
    private static void eachOnWhatThoseAheadMade() {
        sound("p009;h02;k299;", 3);
        faulty("h02;p009;", 2, 0);
        faulty("k200;p009;", 2, 0);
        faulty("p009;h03;p009;", 2, 5);
        OnlyInDisguise x = Checks.with("p009;h00;k017;d01;p009;h01;");
        due("he fell, another holds it", x.office(0, 1), 1);
        due("he is without", x.one(0, 4), -4);
        due("FALLS", x.count(2), 1);
        due("a costume for the day behind it", Checks.with("p649;h00;o05;d01;").one(0, 2), 6);
        due("a costume behind the day", Checks.with("p649;h00;d01;o05;").one(0, 2), 9);
    }

    // "Without FAULT all of it comes, with one nothing."
    private static void allOfItComes() {
        String text = "p736;o49;h42;e3;k234;d02;";
        sound(text, 6);
        OnlyInDisguise x = withText(Houses.FEW, text).anew();
        x.cabinet(0);
        due("one more", x.count(0), 3);
        due("his KIND", x.one(2, 0), 7);
        due("his FIGURE", x.one(2, 1), 3);
        due("his MATE", x.one(2, 3), 6);
        due("his KNOWN", x.one(2, 2), 34);
        due("his OFFICE", x.one(2, 4), 4);
        due("its COSTUME", x.office(4, 0), 9);
        due("who held it is without", x.one(1, 4), -4);
        due("DAY", x.count(1), 3);
        faulty(text + "e5;", 2, 25);
        faulty(text + "e", 1, 26);
    }

    // "e": it is empty, if it was so too; promise 8 alone refuses that
    private static void anEmptyOfficeIsEmptied() {
        sound("e0;", 1);
        sound("e4;e4;", 2);
        OnlyInDisguise x = withText(Houses.FEW, "e4;e4;").anew();
        x.cabinet(0);
        due("nobody holds any", x.count(3), 0);
    }

    // "h": he HOLDS it (and no other)
    private static void oneOfficeForOne() {
        OnlyInDisguise x = withText(Houses.FEW, "h01;h10;h21;").anew();
        due("three", x.cabinet(0), 3);
        due("the last of his and the other's", x.count(3), 2 | 4);
        due("who holds 1", x.office(1, 1), 0);
        due("who holds 2", x.office(2, 1), 1);
        x = withText(Houses.FEW, "h40;h40;").anew();
        due("one who holds it already", x.cabinet(0), 2);
        due("held by him", x.office(4, 1), 0);
        due("the one before is without", x.one(1, 4), -4);
        due("one is held", x.count(3), 16);
    }

    private static void rowIs(OnlyInDisguise x, String text) {
        for (int i = 0; i < text.length(); i++) {
            due("byte " + i + " of '" + text + "'", x.element(0, i), text.charAt(i));
        }
        CHECKS.dueThrow("behind its last byte", x, 0, text.length(), 2);
    }

    // "The ROW of a text ... stay there"
    private static void theRowStays() {
        for (String text : new String[] {"p009;d01;", "p009;d61;", "p009;d01"}) {
            OnlyInDisguise x = withText(Houses.FEW, text).anew();
            x.cabinet(0);
            rowIs(x, text);
        }
    }

    // "-12 (no ROW of bytes)"
    private static void rowsOfBytesAlone() {
        for (int sort = 1; sort < 3; sort++) {
            int of = sort;
            CHECKS.still("a text in a ROW of SORT " + sort, () -> {
                OnlyInDisguise x = Houses.FEW.anew();
                Checks.fill(x, 0, of, 'e', '4', ';');
                return x;
            }, -12, x -> x.cabinet(0));
            CHECKS.still("an empty ROW of SORT " + sort, () -> {
                OnlyInDisguise x = Houses.FEW.anew();
                x.row(0, of, 0);
                return x;
            }, -12, x -> x.cabinet(0));
        }
    }

    // "what is put in keeps its lowest bits": a text is read by what is kept
    private static void lowestBits() {
        OnlyInDisguise x = Houses.FEW.anew();
        Checks.fill(x, 0, 0, 'e' + 256, '4' - 256, ';' + 65536);
        due("more than a byte", x.cabinet(0), 1);
        due("it is empty", x.count(3), 0);
        Checks.fill(x, 0, 0, 'e', '4' + 128, ';');
        due("128 more is another byte", x.cabinet(0), -1001);
    }
}
