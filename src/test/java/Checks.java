import java.util.IdentityHashMap;
import java.util.Map;

/** Counts the answers that are not as due, and ends a test by them. */
final class Checks {
    private final String name;
    private int made = 0;
    private int wrong = 0;
    private final Map<Houses.Make, String> untouched = new IdentityHashMap<>();

    Checks(String name) {
        this.name = name;
    }

    void due(String call, long got, long want) {
        made++;
        if (got != want) {
            wrong++;
            System.out.println(name + ": " + call + " answered " + got + ", due is " + want);
        }
    }

    /** What element() throws: 1 IllegalArgumentException, 2 IllegalStateException, 0 nothing. */
    void dueThrow(String call, OnlyInDisguise x, int d, int i, int want) {
        int got = 0;
        try {
            x.element(d, i);
        } catch (IllegalArgumentException e) {
            got = 1;
        } catch (IllegalStateException e) {
            got = 2;
        }
        due(call, got, want);
    }

    /** A call, as it is tried on an object made for it. */
    interface Call {
        long on(OnlyInDisguise x);
    }

    /** A call that changes nothing: its answer, and behind it all that there is as if it had not been made. */
    void still(String call, Houses.Make make, long want, Call tried) {
        OnlyInDisguise x = make.anew();
        due(call, tried.on(x), want);
        same("behind " + call, Whole.of(x), untouched.computeIfAbsent(make, m -> Whole.of(m.anew())));
    }

    void same(String what, String got, String want) {
        made++;
        if (!got.equals(want)) {
            wrong++;
            System.out.println(name + ": " + what + " there is" + got + "\nand due is" + want);
        }
    }

    void end() {
        System.out.println(name + ": " + made + " answers, " + wrong + " wrong");
        if (wrong != 0 || made == 0) {
            System.exit(1);
        }
    }

    /** A ROW of a SORT with these elements on SHELF d. */
    static void fill(OnlyInDisguise x, int d, int sort, int... elements) {
        x.row(d, sort, elements.length);
        for (int i = 0; i < elements.length; i++) {
            x.put(d, i, elements[i]);
        }
    }

    /** The text as a ROW of bytes on SHELF d, told: what cabinet answers. */
    static int tell(OnlyInDisguise x, int d, String text) {
        x.row(d, 0, text.length());
        for (int i = 0; i < text.length(); i++) {
            x.put(d, i, text.charAt(i));
        }
        return x.cabinet(d);
    }

    /** A new object to which a text has been told by SHELF 7. */
    static OnlyInDisguise with(String text) {
        OnlyInDisguise x = new OnlyInDisguise();
        if (tell(x, 7, text) < 0) {
            throw new IllegalStateException("the test's own text has a fault: " + text);
        }
        return x;
    }
}
