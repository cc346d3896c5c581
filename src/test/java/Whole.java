/**
 * All that an object holds, as one text: what is there now, the sheets, what
 * the tape comes to, and what is kept. Telling it uses the object up.
 */
final class Whole {
    private static final long ALL_SIZES = 1L << 40 | 1L << 12 | 5;

    private Whole() {
    }

    static String of(BumpStreets x) {
        StringBuilder all = new StringBuilder();
        tellTown(all, x);
        for (int s = 0; s < 4; s++) {
            tellSheet(all, x, s);
        }
        int items = x.town();
        all.append(" town ").append(items);
        if (items >= 0) {
            tellTown(all, x);
        }
        int drivers = x.undo();
        all.append(" undo ").append(drivers);
        if (drivers >= 0) {
            tellTown(all, x);
        }
        all.append(" tear ").append(x.tear());
        return all.toString();
    }

    private static void tellTown(StringBuilder all, BumpStreets x) {
        for (int what = 0; what < 4; what++) {
            all.append(x.now(what)).append(' ').append(x.count(what)).append(' ');
        }
        for (int street = 0; street < 3; street++) {
            int set = x.street(street, 0);
            for (int i = 0; i < 20; i++) {
                if ((set >> i & 1) == 1) {
                    all.append(street).append('/').append(i).append(':').append(x.stretch(street, i, 0));
                    all.append(':').append(x.stretch(street, i, 1)).append(' ');
                }
            }
        }
        for (int d = 0; d < x.count(0); d++) {
            for (int what = 0; what < 3; what++) {
                all.append(x.of(d, what)).append(' ');
            }
        }
    }

    private static void tellSheet(StringBuilder all, BumpStreets x, int s) {
        all.append(" sheet ").append(s).append(": ");
        long was = 0;
        for (int i = 0; i <= 40 && was > -1000000000L; i++) {
            was = x.write(s, i, ALL_SIZES);
            all.append(was).append(' ');
        }
        // What is left of a number of all sizes tells how many bits there are.
        all.append(x.write(s, 0, 0));
    }
}
