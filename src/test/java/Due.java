/** Counts the answers that are not the ones that are due. */
final class Due {
    static final long BEYOND = -1000000001L;
    static final long FULL = -1000000002L;
    static final long KIND = -1000000003L;
    static final long NONE = -1000000004L;
    static final long STATE = -1000000005L;
    static final long MISSING = -1000000006L;
    static final long SIZE = -1000000007L;

    private static int wrong = 0;
    private static int asked = 0;

    private Due() {
    }

    static void is(String call, long got, long want) {
        asked++;
        if (got != want) {
            wrong++;
            if (wrong <= 40) {
                System.out.println(call + " answered " + got + ", due is " + want);
            }
        }
    }

    static void end() {
        System.out.println(asked + " answers, " + wrong + " not as due");
        if (wrong != 0) {
            System.exit(1);
        }
    }

    /** Feeds a text to the tape, byte by byte. */
    static void feed(BumpStreets x, String text) {
        for (int i = 0; i < text.length(); i++) {
            x.feed(text.charAt(i), 1);
        }
    }

    static int town(BumpStreets x, String text) {
        feed(x, text);
        return x.town();
    }

    /** All that can be asked of an object without a change, as one text; status() is left out. */
    static String picture(BumpStreets x) {
        StringBuilder all = new StringBuilder();
        for (int what = 0; what < 4; what++) {
            all.append(x.now(what)).append(' ').append(x.count(what)).append(' ');
        }
        for (int street = 0; street < 3; street++) {
            for (int i = 0; i < 20; i++) {
                all.append(x.stretch(street, i, 0)).append(':').append(x.stretch(street, i, 1)).append(' ');
            }
        }
        for (int d = 0; d < x.count(0); d++) {
            for (int what = 0; what < 6; what++) {
                all.append(x.of(d, what)).append(' ');
            }
        }
        return all.toString();
    }
}
