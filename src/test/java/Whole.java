/**
 * All that there is, asked of an object by its calls alone: PEOPLE, OFFICES,
 * FALLS, DAY, SHELVES and THE IMAGE. The asking uses the object up (it writes
 * into rows and restores THE IMAGE at last), and stays below some 350 calls.
 */
final class Whole {
    private Whole() {
    }

    static String of(OnlyInDisguise x) {
        StringBuilder told = new StringBuilder();
        cabinet(told, x);
        for (int d = 0; d < 8; d++) {
            shelf(told, x, d);
        }
        told.append("\nimage: ").append(x.restore());
        cabinet(told, x);
        return told.toString();
    }

    /** PEOPLE, OFFICES, FALLS and DAY alone. */
    static String cabinetOf(OnlyInDisguise x) {
        StringBuilder told = new StringBuilder();
        cabinet(told, x);
        return told.toString();
    }

    private static void cabinet(StringBuilder told, OnlyInDisguise x) {
        told.append("\ncounts:");
        for (int what = 0; what < 5; what++) {
            told.append(' ').append(x.count(what));
        }
        int people = x.count(0);
        for (int p = 0; p < people; p++) {
            told.append("\none ").append(p).append(':');
            for (int what = 0; what < 8; what++) {
                told.append(' ').append(x.one(p, what));
            }
        }
        for (int f = 0; f < 5; f++) {
            told.append("\noffice ").append(f).append(':');
            for (int what = 0; what < 3; what++) {
                told.append(' ').append(x.office(f, what));
            }
        }
    }

    private static void shelf(StringBuilder told, OnlyInDisguise x, int d) {
        told.append("\nshelf ").append(d).append(": ").append(x.cost(d)).append(' ').append(x.toss(d)).append(" row");
        int length = 0;
        try {
            while (true) {
                told.append(' ').append(x.element(d, length));
                length++;
            }
        } catch (IllegalStateException behindTheLast) {
            told.append(" of ").append(length);
        }
        if (length > 0) {
            // What is left of a great number tells the SORT.
            x.put(d, length - 1, 0x12345678);
            told.append(" keeps ").append(x.element(d, length - 1));
        }
    }
}
