/** The boundaries that promises 30 to 35, and the sheets of section 3, name. */
public final class SheetEdgesTest {
    public static void main(String[] args) {
        promise30noSuchSheet();
        promise30otherBits();
        promise30size();
        promise30above40();
        promise30order();
        promise30all0();
        promise30missing();
        promise31noSuchSheet();
        promise31missing();
        promise31noSuchNumber();
        promise31order();
        promise31lowestBits();
        promise32noSuchSheet();
        promise32missing();
        promise32kind();
        promise32beyond();
        promise32tooFar();
        promise32order();
        promise32none();
        promise32asTheyAllWere();
        promise33findings();
        promise33leftOut();
        promise33standForNone();
        promise33paintOfAge0();
        promise34findings();
        promise34howMany();
        promise34eightBits();
        promise35findings();
        promise35size();
        promise35howMany();
        promise35from10to80();
        Due.end();
    }

    private static void promise30noSuchSheet() {
        for (int bits : new int[] {0, 8, 16, 64}) {
            Edge.range("30: sheet", Scenes::busy, 0, 3, (x, v) -> x.sheet(v, bits, 7));
        }
    }

    private static void promise30otherBits() {
        for (int bits = -1; bits <= 65; bits++) {
            int b = bits;
            if (bits == 0 || bits == 8 || bits == 16 || bits == 64) {
                Edge.taken("30: bits " + bits, Scenes::busy, bits == 0 ? 0 : 5, x -> x.sheet(0, b, 5));
            } else {
                Edge.refused("30: bits " + bits, Scenes::busy, Due.BEYOND, x -> x.sheet(0, b, 5));
            }
        }
        for (int bits : new int[] {Integer.MIN_VALUE, -64, -16, -8, 128, 256, Integer.MAX_VALUE}) {
            Edge.refused("30: bits " + bits, Scenes::busy, Due.BEYOND, x -> x.sheet(0, bits, 5));
        }
    }

    /** SIZE: n is below 0 (also with bits 0). */
    private static void promise30size() {
        for (int bits : new int[] {0, 8, 16, 64}) {
            Edge.refused("30: n -1", Scenes::busy, Due.SIZE, x -> x.sheet(1, bits, -1));
            Edge.refused("30: n least", Scenes::busy, Due.SIZE, x -> x.sheet(1, bits, Integer.MIN_VALUE));
            Edge.refused("30: n -1 of a missing one", Scenes::busy, Due.SIZE, x -> x.sheet(3, bits, -1));
            Edge.taken("30: n 0", Scenes::busy, 0, x -> x.sheet(1, bits, 0));
        }
    }

    /** BEYOND: n is above 40 (also with bits 0). */
    private static void promise30above40() {
        for (int bits : new int[] {0, 8, 16, 64}) {
            Edge.taken("30: n 40", Scenes::busy, bits == 0 ? 0 : 40, x -> x.sheet(1, bits, 40));
            Edge.refused("30: n 41", Scenes::busy, Due.BEYOND, x -> x.sheet(1, bits, 41));
            Edge.refused("30: n most", Scenes::busy, Due.BEYOND, x -> x.sheet(1, bits, Integer.MAX_VALUE));
            Edge.refused("30: n 41 of a missing one", Scenes::busy, Due.BEYOND, x -> x.sheet(3, bits, 41));
        }
    }

    private static void promise30order() {
        Edge.refused("30: no such sheet before SIZE", Scenes::busy, Due.BEYOND, x -> x.sheet(4, 8, -1));
        Edge.refused("30: no such sheet before SIZE", Scenes::busy, Due.BEYOND, x -> x.sheet(-1, 0, -1));
        Edge.refused("30: other bits before SIZE", Scenes::busy, Due.BEYOND, x -> x.sheet(0, 32, -1));
        Edge.refused("30: other bits before SIZE", Scenes::busy, Due.BEYOND, x -> x.sheet(3, -8, Integer.MIN_VALUE));
        Edge.refused("30: all wrong is one finding", Scenes::busy, Due.BEYOND, x -> x.sheet(4, 32, 41));
    }

    private static void promise30all0() {
        for (int bits : new int[] {8, 16, 64}) {
            BumpStreets x = new BumpStreets();
            x.sheet(2, 64, 40);
            for (int i = 0; i < 40; i++) {
                x.write(2, i, -7);
            }
            Due.is("30: anew", x.sheet(2, bits, 40), 40);
            for (int i = 0; i < 40; i++) {
                Due.is("30: all 0", x.write(2, i, 9), 0);
            }
            // What was cut off doesn't come back.
            x.sheet(2, bits, 1);
            x.sheet(2, bits, 40);
            Due.is("30: all 0 again", x.write(2, 39, 1), 0);
        }
    }

    private static void promise30missing() {
        Edge.taken("30: n of one that is missing", Scenes::busy, 0, x -> x.sheet(0, 0, 40));
        BumpStreets x = Scenes.busy();
        x.sheet(0, 0, 6);
        Due.is("30: it is missing", x.write(0, 0, 1), Due.MISSING);
        Due.is("30: others are not", x.write(1, 1, 1), 10);
        Due.is("30: missing again", x.sheet(0, 0, 0), 0);
        Due.is("30: back", x.sheet(0, 8, 6), 6);
        Due.is("30: all 0", x.write(0, 5, 1), 0);
        // A sheet of no numbers is not missing.
        x.sheet(0, 8, 0);
        Due.is("30: of no numbers", x.write(0, 0, 1), Due.BEYOND);
    }

    private static void promise31noSuchSheet() {
        Edge.range("31: sheet", SheetEdgesTest::fourSheets, 0, 3, (x, v) -> x.write(v, 0, 9));
    }

    private static BumpStreets fourSheets() {
        BumpStreets x = Scenes.busy();
        x.sheet(3, 8, 1);
        return x;
    }

    private static void promise31missing() {
        for (int i : new int[] {Integer.MIN_VALUE, -1, 0, 39, 40, Integer.MAX_VALUE}) {
            Edge.refused("31: missing", Scenes::busy, Due.MISSING, x -> x.write(3, i, 1));
        }
    }

    private static void promise31noSuchNumber() {
        Edge.range("31: number of 6", Scenes::busy, 0, 5, (x, v) -> x.write(0, v, 9));
        Edge.range("31: number of 6", Scenes::busy, 0, 5, (x, v) -> x.write(1, v, 9));
        Edge.range("31: number of 21", Scenes::busy, 0, 20, (x, v) -> x.write(2, v, 9));
        Edge.range("31: number of 1", SheetEdgesTest::fourSheets, 0, 0, (x, v) -> x.write(3, v, 9));
        Edge.refused("31: number 0 of none", SheetEdgesTest::noNumbers, Due.BEYOND, x -> x.write(3, 0, 9));
        Edge.range("31: number of 40", SheetEdgesTest::fortyNumbers, 0, 39, (x, v) -> x.write(0, v, 9));
    }

    private static BumpStreets noNumbers() {
        BumpStreets x = Scenes.busy();
        x.sheet(3, 16, 0);
        return x;
    }

    private static BumpStreets fortyNumbers() {
        BumpStreets x = new BumpStreets();
        x.sheet(0, 64, 40);
        x.write(0, 39, 5);
        return x;
    }

    private static void promise31order() {
        Edge.refused("31: no such sheet before number", Scenes::busy, Due.BEYOND, x -> x.write(4, -1, 1));
        Edge.refused("31: MISSING before no such number", Scenes::busy, Due.MISSING, x -> x.write(3, -1, 1));
        Edge.refused("31: MISSING before no such number", Scenes::busy, Due.MISSING, x -> x.write(3, 40, 1));
    }

    /** Number i becomes v (its lowest bits), with the sign that Java's numbers of as many bits have. */
    private static void promise31lowestBits() {
        long[] v = {0, 1, 127, 128, 255, 256, 257, 32767, 32768, 65535, 65536, 65537, -1, -128, -129, -32768, -32769,
            1L << 31, 1L << 32, (1L << 32) + 5, Long.MAX_VALUE, Long.MIN_VALUE, Long.MIN_VALUE + 1};
        int[] bits = {8, 16, 64};
        for (int b : bits) {
            BumpStreets x = new BumpStreets();
            x.sheet(1, b, 3);
            for (long one : v) {
                long lowest = b == 64 ? one : one << 64 - b >> 64 - b;
                x.write(1, 1, one);
                Due.is("31: lowest " + b + " bits of " + one, x.write(1, 1, 0), lowest);
            }
            Due.is("31: the one before stays", x.write(1, 0, 1), 0);
            Due.is("31: the one behind stays", x.write(1, 2, 1), 0);
        }
    }

    private static void promise32noSuchSheet() {
        Edge.range("32: sheet from", SheetEdgesTest::alike, 0, 3, (x, v) -> x.copy(v, 0, 1, 0, 1));
        Edge.range("32: sheet to", SheetEdgesTest::alike, 0, 3, (x, v) -> x.copy(1, 0, v, 0, 1));
        Edge.refused("32: neither", SheetEdgesTest::alike, Due.BEYOND, x -> x.copy(4, 0, -1, 0, 1));
    }

    /** Four sheets of as many bits, of 6, 4, 40 and 1 numbers. */
    private static BumpStreets alike() {
        BumpStreets x = new BumpStreets();
        int[] sizes = {6, 4, 40, 1};
        for (int s = 0; s < 4; s++) {
            x.sheet(s, 16, sizes[s]);
            for (int i = 0; i < Math.min(6, sizes[s]); i++) {
                x.write(s, i, 10 * (s + 1) + i);
            }
        }
        return x;
    }

    private static void promise32missing() {
        Edge.refused("32: from a missing one", Scenes::busy, Due.MISSING, x -> x.copy(3, 0, 0, 0, 1));
        Edge.refused("32: to a missing one", Scenes::busy, Due.MISSING, x -> x.copy(0, 0, 3, 0, 1));
        Edge.refused("32: from and to a missing one", Scenes::busy, Due.MISSING, x -> x.copy(3, 0, 3, 0, 0));
    }

    private static void promise32kind() {
        for (int s = 0; s < 3; s++) {
            for (int t = 0; t < 3; t++) {
                int from = s;
                int to = t;
                if (s == t) {
                    Edge.taken("32: as many bits", Scenes::busy, 2, x -> x.copy(from, 0, to, 3, 2));
                } else {
                    Edge.refused("32: other bits", Scenes::busy, Due.KIND, x -> x.copy(from, 0, to, 0, 1));
                    Edge.refused("32: other bits, none copied", Scenes::busy, Due.KIND, x -> x.copy(from, 0, to, 0, 0));
                }
            }
        }
    }

    /** BEYOND: one has not so many, or from, to or n is below 0. */
    private static void promise32beyond() {
        Edge.range("32: from", SheetEdgesTest::alike, 0, 4, (x, v) -> x.copy(0, v, 1, 0, 2));
        Edge.range("32: to", SheetEdgesTest::alike, 0, 2, (x, v) -> x.copy(0, 0, 1, v, 2));
        Edge.range("32: n by the one it comes to", SheetEdgesTest::alike, 0, 4, (x, v) -> x.copy(0, 0, 1, 0, v));
        Edge.range("32: n by the one it comes from", SheetEdgesTest::alike, 0, 4, (x, v) -> x.copy(1, 0, 0, 0, v));
        Edge.range("32: n of forty", SheetEdgesTest::alike, 0, 40, (x, v) -> x.copy(2, 0, 2, 0, v));
        Edge.range("32: n behind from", SheetEdgesTest::alike, 0, 1, (x, v) -> x.copy(0, 5, 2, 0, v));
        Edge.range("32: n behind to", SheetEdgesTest::alike, 0, 1, (x, v) -> x.copy(2, 0, 0, 5, v));
        Edge.range("32: from with none", SheetEdgesTest::alike, 0, 6, (x, v) -> x.copy(0, v, 1, 0, 0));
        Edge.range("32: to with none", SheetEdgesTest::alike, 0, 4, (x, v) -> x.copy(0, 0, 1, v, 0));
    }

    /** From and n together may come round below 0. */
    private static void promise32tooFar() {
        int most = Integer.MAX_VALUE;
        Edge.refused("32: from and n", SheetEdgesTest::alike, Due.BEYOND, x -> x.copy(0, most, 1, 0, 1));
        Edge.refused("32: from and n", SheetEdgesTest::alike, Due.BEYOND, x -> x.copy(0, 1, 1, 0, most));
        Edge.refused("32: to and n", SheetEdgesTest::alike, Due.BEYOND, x -> x.copy(0, 0, 1, most, 1));
        Edge.refused("32: all", SheetEdgesTest::alike, Due.BEYOND, x -> x.copy(0, most, 1, most, most));
        Edge.refused("32: all", SheetEdgesTest::alike, Due.BEYOND, x -> x.copy(0, 1 << 30, 1, 1 << 30, 1 << 30));
        Edge.refused("32: n least", SheetEdgesTest::alike, Due.BEYOND,
            x -> x.copy(0, most, 1, most, Integer.MIN_VALUE));
        Edge.refused("32: from -1 and n", SheetEdgesTest::alike, Due.BEYOND, x -> x.copy(0, -1, 1, 0, 1));
        Edge.refused("32: to -1 and n", SheetEdgesTest::alike, Due.BEYOND, x -> x.copy(0, 0, 1, -1, 1));
        Edge.refused("32: n -1", SheetEdgesTest::alike, Due.BEYOND, x -> x.copy(0, 2, 1, 2, -1));
    }

    private static void promise32order() {
        Edge.refused("32: no such sheet before MISSING", Scenes::busy, Due.BEYOND, x -> x.copy(3, 0, 4, 0, 1));
        Edge.refused("32: no such sheet before MISSING", Scenes::busy, Due.BEYOND, x -> x.copy(-1, 0, 3, 0, 1));
        Edge.refused("32: MISSING before KIND", Scenes::busy, Due.MISSING, x -> x.copy(0, 0, 3, 0, 1));
        Edge.refused("32: MISSING before BEYOND", Scenes::busy, Due.MISSING, x -> x.copy(3, -1, 0, 0, 1));
        Edge.refused("32: MISSING before BEYOND", Scenes::busy, Due.MISSING, x -> x.copy(0, 0, 3, 41, -1));
        Edge.refused("32: KIND before from", Scenes::busy, Due.KIND, x -> x.copy(0, -1, 1, 0, 1));
        Edge.refused("32: KIND before to", Scenes::busy, Due.KIND, x -> x.copy(0, 0, 1, 7, 1));
        Edge.refused("32: KIND before n", Scenes::busy, Due.KIND, x -> x.copy(0, 0, 1, 0, -1));
        Edge.refused("32: KIND before n", Scenes::busy, Due.KIND, x -> x.copy(0, 0, 1, 0, 41));
    }

    private static void promise32none() {
        Edge.onlyTold("32: none", SheetEdgesTest::alike, 0, x -> x.copy(0, 0, 1, 0, 0));
        Edge.onlyTold("32: none from the end", SheetEdgesTest::alike, 0, x -> x.copy(0, 6, 1, 4, 0));
        Edge.onlyTold("32: none of none", SheetEdgesTest::noNumbers, 0, x -> x.copy(3, 0, 3, 0, 0));
        Edge.refused("32: one of none", SheetEdgesTest::noNumbers, Due.BEYOND, x -> x.copy(3, 0, 3, 0, 1));
    }

    private static void row(String what, BumpStreets x, int s, long... due) {
        for (int i = 0; i < due.length; i++) {
            long was = x.write(s, i, 0);
            x.write(s, i, was);
            Due.is(what + " at " + i, was, due[i]);
        }
    }

    private static void promise32asTheyAllWere() {
        BumpStreets x = alike();
        Due.is("32: within itself, up", x.copy(0, 0, 0, 1, 5), 5);
        row("32: within itself, up", x, 0, 10, 10, 11, 12, 13, 14);
        x = alike();
        Due.is("32: within itself, down", x.copy(0, 1, 0, 0, 5), 5);
        row("32: within itself, down", x, 0, 11, 12, 13, 14, 15, 15);
        x = alike();
        Due.is("32: on itself", x.copy(0, 0, 0, 0, 6), 6);
        row("32: on itself", x, 0, 10, 11, 12, 13, 14, 15);
        x = alike();
        Due.is("32: to another's end", x.copy(0, 4, 1, 2, 2), 2);
        row("32: to another's end", x, 1, 20, 21, 14, 15);
        row("32: the first stays", x, 0, 10, 11, 12, 13, 14, 15);
        x = new BumpStreets();
        for (int s = 0; s < 2; s++) {
            x.sheet(s, 64, 2);
        }
        x.write(0, 0, Long.MIN_VALUE);
        x.write(0, 1, Long.MAX_VALUE);
        x.copy(0, 0, 1, 0, 2);
        row("32: all 64 bits", x, 1, Long.MIN_VALUE, Long.MAX_VALUE);
    }

    private static void promise33findings() {
        Edge.range("33: sheet", SheetEdgesTest::fourSheets, 0, 3, (x, v) -> x.lays(v, 1));
        Edge.range("33: street", Scenes::busy, 0, 2, (x, v) -> x.lays(2, v));
        Edge.refused("33: missing", Scenes::busy, Due.MISSING, x -> x.lays(3, 0));
        Edge.refused("33: MISSING before street", Scenes::busy, Due.MISSING, x -> x.lays(3, 3));
        Edge.refused("33: no such sheet before street", Scenes::busy, Due.BEYOND, x -> x.lays(4, 3));
        Edge.refused("33: street before none", SheetEdgesTest::noNumbers, Due.BEYOND, x -> x.lays(3, -1));
        Edge.onlyTold("33: no numbers", SheetEdgesTest::noNumbers, 0, x -> x.lays(3, 2));
    }

    /** Those that aren't 0 to 4 are left out. */
    private static void promise33leftOut() {
        long[] v = {-1, 0, 1, 2, 3, 4, 5, 255, 256, 1L << 32, (1L << 32) + 1, Long.MIN_VALUE, Long.MAX_VALUE};
        for (int bits : new int[] {8, 16, 64}) {
            for (long one : v) {
                long lowest = bits == 64 ? one : one << 64 - bits >> 64 - bits;
                boolean comes = lowest >= 0 && lowest <= 4;
                BumpStreets x = new BumpStreets();
                x.thing(2, 0, 2);
                x.thing(2, 1, 3);
                x.sheet(0, bits, 2);
                x.write(0, 0, one);
                x.write(0, 1, 1);
                Due.is("33: how many came with " + one, x.lays(0, 2), comes ? 2 : 1);
                Due.is("33: what is there", x.stretch(2, 0, 0), comes ? lowest : 2);
                Due.is("33: the next one comes", x.stretch(2, 1, 0), 1);
            }
        }
    }

    /** Those that stand for none (beyond the last STRETCH) are left out. */
    private static void promise33standForNone() {
        for (int size : new int[] {1, 19, 20, 21, 40}) {
            for (int street = 0; street < 3; street++) {
                BumpStreets x = new BumpStreets();
                x.sheet(1, 8, size);
                for (int i = 0; i < size; i++) {
                    x.write(1, i, 1);
                }
                int many = Math.min(20, size);
                Due.is("33: how many came of " + size, x.lays(1, street), many);
                Due.is("33: bumps there", x.street(street, 0), (1 << many) - 1);
                Due.is("33: bumps in all", x.count(2), many);
            }
        }
        // Behind what the sheet has all stays.
        BumpStreets x = Scenes.packed();
        x.sheet(0, 8, 19);
        Due.is("33: nineteen", x.lays(0, 0), 19);
        Due.is("33: the last one stays", x.street(0, 0), 1 << 19);
    }

    private static void promise33paintOfAge0() {
        BumpStreets x = new BumpStreets();
        x.thing(0, 0, 4);
        x.thing(0, 1, 4);
        x.thing(0, 2, 4);
        x.days(9);
        x.sheet(0, 16, 2);
        x.write(0, 0, 4);
        x.write(0, 1, 5);
        Due.is("33: one came", x.lays(0, 0), 1);
        Due.is("33: laid anew", x.stretch(0, 0, 1), 0);
        Due.is("33: left out", x.stretch(0, 1, 1), 9);
        Due.is("33: none for it", x.stretch(0, 2, 1), 9);
        x.days(1);
        x.write(0, 0, 3);
        x.lays(0, 0);
        Due.is("33: no age of a sign", x.stretch(0, 0, 1), 0);
    }

    /** A sheet of two numbers, and so many drivers. */
    private static BumpStreets sheetAnd(int drivers) {
        BumpStreets x = new BumpStreets();
        x.sheet(0, 8, 2);
        x.write(0, 0, 40);
        x.write(0, 1, 41);
        for (int d = 0; d < drivers; d++) {
            x.driver(d % 6);
        }
        return x;
    }

    private static void drivers(String sentence, Edge.WithNumber call) {
        Edge.refused(sentence + " 0 of none", () -> sheetAnd(0), Due.BEYOND, x -> call.ask(x, 0));
        Edge.range(sentence + " of one", () -> sheetAnd(1), 0, 0, call);
        Edge.range(sentence + " of eight", () -> sheetAnd(8), 0, 7, call);
    }

    private static void promise34findings() {
        Edge.range("34: sheet", SheetEdgesTest::fourSheets, 0, 3, (x, v) -> x.book(v, 0, 1));
        drivers("34: driver", (x, v) -> x.book(0, v, 1));
        Edge.range("34: street", Scenes::busy, 0, 2, (x, v) -> x.book(0, 0, v));
        Edge.refused("34: missing", Scenes::busy, Due.MISSING, x -> x.book(3, 0, 0));
        Edge.refused("34: MISSING before driver", Scenes::busy, Due.MISSING, x -> x.book(3, 3, 0));
        Edge.refused("34: MISSING before street", Scenes::busy, Due.MISSING, x -> x.book(3, 0, 3));
        Edge.refused("34: no such sheet before both", Scenes::busy, Due.BEYOND, x -> x.book(4, 3, 3));
        Edge.refused("34: both wrong is one finding", Scenes::busy, Due.BEYOND, x -> x.book(0, 3, 3));
        Edge.refused("34: driver before none", SheetEdgesTest::noNumbers, Due.BEYOND, x -> x.book(3, 3, 0));
        Edge.onlyTold("34: no numbers", SheetEdgesTest::noNumbers, 0, x -> x.book(3, 0, 0));
    }

    /** As many as it has numbers, 20 at most. */
    private static void promise34howMany() {
        for (int size : new int[] {1, 19, 20, 21, 40}) {
            BumpStreets x = new BumpStreets();
            x.driver(1);
            x.thing(2, 0, 1);
            x.thing(2, 19, 1);
            x.sheet(3, 16, size);
            for (int i = 0; i < size; i++) {
                x.write(3, i, 7);
            }
            Due.is("34: how many of " + size, x.book(3, 0, 2), Math.min(20, size));
            for (int i = 0; i < size; i++) {
                long due = i > 19 ? 7 : i == 0 || i == 19 ? 28 : i == 1 ? 34 : 40;
                Due.is("34: number " + i + " of " + size, x.write(3, i, 0), due);
            }
        }
    }

    /** The quickest and the slowest that there are. */
    private static void promise34eightBits() {
        for (int bits : new int[] {8, 16, 64}) {
            BumpStreets x = new BumpStreets();
            x.driver(0);
            x.sheet(0, bits, 2);
            x.thing(0, 1, 1);
            x.high(6);
            x.set(0, 1, 80);
            Due.is("34: two", x.book(0, 0, 0), 2);
            row("34: at 80", x, 0, 80, 32);
            x.set(0, 1, 10);
            Due.is("34: two", x.book(0, 0, 0), 2);
            row("34: at 10", x, 0, 10, 5);
        }
    }

    private static void promise35findings() {
        Edge.range("35: sheet", SheetEdgesTest::readable, 0, 3, (x, v) -> x.read(v, 0, 1));
        drivers("35: driver", (x, v) -> x.read(0, v, 1));
        Edge.range("35: street", Scenes::busy, 0, 2, (x, v) -> x.read(0, 0, v));
        Edge.refused("35: missing", Scenes::busy, Due.MISSING, x -> x.read(3, 0, 0));
        Edge.refused("35: MISSING before driver", Scenes::busy, Due.MISSING, x -> x.read(3, 3, 0));
        Edge.refused("35: MISSING before street", Scenes::busy, Due.MISSING, x -> x.read(3, 0, 3));
        Edge.refused("35: no such sheet before both", Scenes::busy, Due.BEYOND, x -> x.read(4, 3, 3));
        Edge.refused("35: both wrong is one finding", Scenes::busy, Due.BEYOND, x -> x.read(0, 3, 3));
        Edge.refused("35: driver before SIZE", Scenes::busy, Due.BEYOND, x -> x.read(2, 3, 0));
        Edge.refused("35: driver before SIZE", Scenes::busy, Due.BEYOND, x -> x.read(2, -1, 0));
        Edge.refused("35: street before SIZE", Scenes::busy, Due.BEYOND, x -> x.read(2, 0, 3));
        Edge.refused("35: street before SIZE", Scenes::busy, Due.BEYOND, x -> x.read(2, 0, -1));
    }

    private static BumpStreets readable() {
        BumpStreets x = fourSheets();
        x.sheet(2, 64, 20);
        return x;
    }

    /** SIZE: the sheet has more than 20 numbers. */
    private static void promise35size() {
        for (int bits : new int[] {8, 16, 64}) {
            Edge.onlyTold("35: 20 numbers", () -> booked(bits, 20), 6, x -> x.read(0, 0, 0));
            Edge.refused("35: 21 numbers", () -> booked(bits, 21), Due.SIZE, x -> x.read(0, 0, 0));
            Edge.refused("35: 40 numbers", () -> booked(bits, 40), Due.SIZE, x -> x.read(0, 0, 0));
        }
    }

    private static BumpStreets booked(int bits, int size) {
        BumpStreets x = Scenes.one();
        x.sheet(0, bits, size);
        x.book(0, 0, 0);
        return x;
    }

    private static void promise35howMany() {
        // All 71 wishes of all 6 kinds make it just so where nothing is told.
        Edge.onlyTold("35: no numbers", () -> booked(8, 0), 6 * 71, x -> x.read(0, 0, 0));
        Edge.onlyTold("35: one number", () -> booked(8, 1), 6, x -> x.read(0, 0, 0));
        for (int wrong : new int[] {0, 1, 18, 19}) {
            Edge.onlyTold("35: not just so on " + wrong, () -> {
                BumpStreets x = booked(64, 20);
                x.write(0, wrong, 41);
                return x;
            }, 0, x -> x.read(0, 0, 0));
            Edge.onlyTold("35: all 64 bits count on " + wrong, () -> {
                BumpStreets x = booked(64, 20);
                x.write(0, wrong, 40 + (1L << 32));
                return x;
            }, 0, x -> x.read(0, 0, 0));
        }
        // What the one asked of is itself is nothing to it.
        for (int kind = 0; kind < 6; kind++) {
            BumpStreets x = booked(8, 20);
            x.turn(0, kind);
            x.set(0, 1, 10 + kind);
            Due.is("35: whoever is asked of", x.read(0, 0, 2), 6);
        }
        // Each lorry of a wish of 14 or more goes at 8 over a bump of 4 and at 14 behind it, and a bus of 24.
        BumpStreets x = new BumpStreets();
        x.driver(0);
        x.high(4);
        x.thing(0, 0, 1);
        x.sheet(0, 8, 2);
        x.write(0, 0, 8);
        x.write(0, 1, 14);
        Due.is("35: lorries from 14 to 80, and a bus", x.read(0, 0, 0), 67 + 1);
    }

    /** A WISH (10 to 80): neither 9 nor 81 makes a pair. */
    private static void promise35from10to80() {
        int[] pace = {9, 10, 80, 81};
        int[] due = {0, 6, 6, 0};
        for (int i = 0; i < pace.length; i++) {
            int v = pace[i];
            for (int size : new int[] {1, 20}) {
                BumpStreets x = Scenes.one();
                x.sheet(0, 8, size);
                for (int j = 0; j < size; j++) {
                    x.write(0, j, v);
                }
                Due.is("35: at " + v + " all along " + size, x.read(0, 0, 1), due[i]);
            }
        }
    }
}
