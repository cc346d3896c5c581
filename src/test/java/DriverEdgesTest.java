/** The boundaries that promises 7 to 15, and the terms they use, name. */
public final class DriverEdgesTest {
    public static void main(String[] args) {
        promise7beyond();
        promise7full();
        promise7beyondBeforeFull();
        promise7number();
        promise8beyond();
        promise8inItsStreet();
        promise9beyond();
        promise9whatItWas();
        promise10beyond();
        promise10whatItWas();
        promise11beyond();
        promise11kind();
        promise11beyondBeforeKind();
        promise12beyond();
        promise12ageOfOthersToo();
        promise12fiveAtLeast();
        promise12busFiveAtLeast();
        promise12lorryFromFourOn();
        promise12paintBelow21();
        promise12racerNoMoreThanItsWish();
        promise12quotientsAreCut();
        promise13beyond();
        promise13wishOnStretch0();
        promise13noMoreThanItsWish();
        promise13whicheverIsLess();
        promise14beyond();
        promise14eachIsCut();
        promise15beyond();
        promise15eachIsCut();
        Due.end();
    }

    private static BumpStreets of(int kind, int wish, int high) {
        BumpStreets x = new BumpStreets();
        x.driver(kind);
        x.set(0, 1, wish);
        x.high(high);
        return x;
    }

    private static void promise7beyond() {
        Edge.range("7: kind", Scenes::busy, 0, 5, (x, v) -> x.driver(v));
    }

    private static void promise7full() {
        for (int kind = 0; kind < 6; kind++) {
            int k = kind;
            Edge.refused("7: a 9th", Scenes::crowded, Due.FULL, x -> x.driver(k));
        }
        Edge.taken("7: an 8th", Scenes::crowded, 7, x -> {
            x.undo();
            for (int d = 3; d < 7; d++) {
                x.driver(0);
            }
            return x.driver(0);
        });
    }

    private static void promise7beyondBeforeFull() {
        Edge.refused("7: kind -1 when it is full", Scenes::crowded, Due.BEYOND, x -> x.driver(-1));
        Edge.refused("7: kind 6 when it is full", Scenes::crowded, Due.BEYOND, x -> x.driver(6));
    }

    private static void promise7number() {
        BumpStreets x = new BumpStreets();
        for (int d = 0; d < 8; d++) {
            Due.is("7: the number", x.driver(d % 6), d);
            Due.is("7: how many", x.count(0), d + 1);
            Due.is("7: kind", x.of(d, 0), d % 6);
            Due.is("7: wish at first", x.of(d, 1), 40);
            Due.is("7: street at first", x.of(d, 2), 0);
            // What one was set to is not what the next one has at first.
            x.set(d, 1, 50);
            x.set(d, 2, 1);
        }
        Due.is("7: a 9th", x.driver(0), Due.FULL);
        Due.is("7: still eight", x.count(0), 8);
        x = Scenes.busy();
        x.driver(4);
        x.set(3, 1, 60);
        x.set(3, 2, 2);
        x.undo();
        Due.is("7: the number after undo", x.driver(3), 3);
        Due.is("7: kind of one anew", x.of(3, 0), 3);
        Due.is("7: wish of one anew", x.of(3, 1), 40);
        Due.is("7: street of one anew", x.of(3, 2), 0);
    }

    private static void promise8beyond() {
        for (int what = 0; what < 6; what++) {
            int w = what;
            Edge.drivers("8: driver", (x, v) -> x.of(v, w));
        }
        Edge.range("8: what", Scenes::busy, 0, 5, (x, v) -> x.of(2, v));
        Edge.refused("8: both wrong is one finding", Scenes::busy, Due.BEYOND, x -> x.of(3, 6));
        BumpStreets y = Scenes.busy();
        y.driver(0);
        Due.is("8: a 4th", y.of(3, 0), 0);
        y.undo();
        Due.is("8: gone by undo", y.of(3, 0), Due.BEYOND);
    }

    private static void promise8inItsStreet() {
        BumpStreets x = of(1, 40, 3);
        x.thing(1, 19, 1);
        int[] takes = {600, 570 + 43, 600};
        int[] shaken = {0, 11, 0};
        for (int street = 0; street < 3; street++) {
            x.set(0, 2, street);
            Due.is("8: takes", x.of(0, 4), takes[street]);
            Due.is("8: shaken", x.of(0, 5), shaken[street]);
        }
    }

    private static void promise9beyond() {
        Edge.drivers("9: driver's wish", (x, v) -> x.set(v, 1, 50));
        Edge.drivers("9: driver's street", (x, v) -> x.set(v, 2, 1));
        Edge.range("9: what", Scenes::busy, 1, 2, (x, v) -> x.set(1, v, v == 1 ? 10 : 2));
        Edge.refused("9: kind is not set", Scenes::busy, Due.BEYOND, x -> x.set(1, 0, 1));
        Edge.refused("9: hurries is not set", Scenes::busy, Due.BEYOND, x -> x.set(1, 3, 12));
        Edge.range("9: wish", Scenes::busy, 10, 80, (x, v) -> x.set(1, 1, v));
        Edge.range("9: street", Scenes::busy, 0, 2, (x, v) -> x.set(1, 2, v));
        Edge.refused("9: a street is no wish", Scenes::busy, Due.BEYOND, x -> x.set(1, 1, 2));
        Edge.refused("9: a wish is no street", Scenes::busy, Due.BEYOND, x -> x.set(1, 2, 10));
        Edge.refused("9: all wrong is one finding", Scenes::busy, Due.BEYOND, x -> x.set(3, 3, 9));
    }

    private static void promise9whatItWas() {
        BumpStreets x = Scenes.crowded();
        Due.is("9: wish that was", x.set(7, 1, 10), 40);
        Due.is("9: wish that was", x.set(7, 1, 80), 10);
        Due.is("9: wish that was", x.set(7, 1, 80), 80);
        Due.is("9: street that was", x.set(7, 2, 2), 0);
        Due.is("9: street that was", x.set(7, 2, 0), 2);
        Due.is("9: wish that is", x.of(7, 1), 80);
        Due.is("9: street that is", x.of(7, 2), 0);
        Due.is("9: another's wish", x.of(6, 1), 40);
    }

    private static void promise10beyond() {
        Edge.drivers("10: driver", (x, v) -> x.turn(v, 5));
        Edge.range("10: kind", Scenes::busy, 0, 5, (x, v) -> x.turn(1, v));
        Edge.refused("10: both wrong is one finding", Scenes::busy, Due.BEYOND, x -> x.turn(3, 6));
    }

    private static void promise10whatItWas() {
        BumpStreets x = Scenes.crowded();
        int was = 4;
        for (int kind : new int[] {0, 5, 5, 1, 4, 2, 3, 0}) {
            Due.is("10: what it was", x.turn(7, kind), was);
            Due.is("10: what it is", x.of(7, 0), kind);
            was = kind;
        }
        Due.is("10: another stays", x.of(6, 0), 3);
    }

    private static void promise11beyond() {
        Edge.drivers("11: no such one", (x, v) -> x.as(v, 0));
        for (int driver = 0; driver < 3; driver++) {
            int d = driver;
            // As a driver is all; as what it is itself each is.
            Edge.range("11: kind", Scenes::busy, 0, 5, (x, v) -> {
                if (v == 5) {
                    x.turn(d, 5);
                }
                return x.as(d, v);
            });
        }
    }

    private static void promise11kind() {
        boolean[][] is = new boolean[6][6];
        int[] above = {-1, 0, 0, 0, 1, 3};
        for (int kind = 0; kind < 6; kind++) {
            for (int k = kind; k >= 0; k = above[k]) {
                is[kind][k] = true;
            }
        }
        for (int kind = 0; kind < 6; kind++) {
            int own = kind;
            for (int other = 0; other < 6; other++) {
                int k = other;
                if (is[own][k]) {
                    Edge.onlyTold("11: " + own + " as " + k, () -> of(own, 63, 3), 63, x -> x.as(0, k));
                } else {
                    Edge.refused("11: " + own + " as " + k, () -> of(own, 63, 3), Due.KIND, x -> x.as(0, k));
                }
            }
        }
    }

    private static void promise11beyondBeforeKind() {
        // The racer of busy() is no bus; a kind that there isn't is BEYOND all the same.
        Edge.refused("11: not of that kind", Scenes::busy, Due.KIND, x -> x.as(1, 1));
        Edge.refused("11: no such kind", Scenes::busy, Due.BEYOND, x -> x.as(1, 6));
        Edge.refused("11: no such kind", Scenes::busy, Due.BEYOND, x -> x.as(1, -1));
        Edge.refused("11: no such one", Scenes::busy, Due.BEYOND, x -> x.as(3, 1));
        Edge.refused("11: neither", Scenes::busy, Due.BEYOND, x -> x.as(-1, 6));
    }

    private static void promise12beyond() {
        Edge.drivers("12: driver", (x, v) -> x.slows(v, 1, 0));
        Edge.range("12: thing", Scenes::busy, 1, 4, (x, v) -> x.slows(1, v, 0));
        Edge.refused("12: all wrong is one finding", Scenes::busy, Due.BEYOND, x -> x.slows(3, 0, 1000));
    }

    private static void promise12ageOfOthersToo() {
        for (int thing = 1; thing <= 4; thing++) {
            int t = thing;
            Edge.range("12: age at thing " + t, Scenes::busy, 0, 999, (x, v) -> x.slows(0, t, v));
        }
    }

    /** DRIVER: at a BUMP w less 8 times h (5 at least); so LORRY below 4, LOCAL. */
    private static void promise12fiveAtLeast() {
        int[] kinds = {0, 2, 3};
        for (int kind : kinds) {
            for (int h = 1; h <= 3; h++) {
                for (int less = 4; less <= 6; less++) {
                    int wish = 8 * h + less;
                    int high = h;
                    Edge.taken("12: " + kind + " of wish " + wish + " over " + h, () -> of(kind, wish, high),
                        Math.max(5, less), x -> x.slows(0, 1, 0));
                }
            }
        }
        Edge.taken("12: never below 5", () -> of(0, 10, 6), 5, x -> x.slows(0, 1, 0));
        Edge.taken("12: just 5 over the highest", () -> of(3, 53, 6), 5, x -> x.slows(0, 1, 0));
        Edge.taken("12: 6 over the highest", () -> of(3, 54, 6), 6, x -> x.slows(0, 1, 0));
    }

    private static void promise12busFiveAtLeast() {
        for (int kind : new int[] {1, 4}) {
            for (int h = 2; h <= 6; h++) {
                for (int less = 4; less <= 6; less++) {
                    int wish = 4 * h + less;
                    int high = h;
                    Edge.taken("12: " + kind + " of wish " + wish + " over " + h, () -> of(kind, wish, high),
                        Math.max(5, less), x -> x.slows(0, 1, 0));
                }
            }
            Edge.taken("12: never below 5", () -> of(kind, 10, 6), 5, x -> x.slows(0, 1, 0));
        }
    }

    private static void promise12lorryFromFourOn() {
        int[] due = {72, 64, 56, 8, 8, 8};
        for (int h = 1; h <= 6; h++) {
            int high = h;
            Edge.taken("12: lorry over " + h, () -> of(2, 80, high), due[h - 1], x -> x.slows(0, 1, 0));
        }
        Edge.taken("12: slow lorry over 4", () -> of(2, 10, 4), 8, x -> x.slows(0, 1, 0));
        Edge.taken("12: slow lorry over 3", () -> of(2, 10, 3), 5, x -> x.slows(0, 1, 0));
    }

    private static void promise12paintBelow21() {
        for (int kind = 0; kind < 6; kind++) {
            int k = kind;
            int works = k == 3 || k == 5 ? 40 : 30;
            for (int age : new int[] {0, 1, 19, 20, 21, 22, 998, 999}) {
                Edge.taken("12: " + k + " at paint of " + age, () -> of(k, 40, 3), age < 21 ? works : 40,
                    x -> x.slows(0, 4, age));
            }
            // A sign doesn't wear off.
            Edge.taken("12: sign of 20", () -> of(k, 40, 3), k == 3 || k == 5 ? 40 : 35, x -> x.slows(0, 3, 20));
            Edge.taken("12: sign of 21", () -> of(k, 40, 3), k == 3 || k == 5 ? 40 : 35, x -> x.slows(0, 3, 21));
        }
    }

    /** RACER: as LOCAL, and 5 (w at most). */
    private static void promise12racerNoMoreThanItsWish() {
        for (int wish : new int[] {10, 11, 40, 79, 80}) {
            Edge.taken("12: racer at a sign", () -> of(5, wish, 3), wish, x -> x.slows(0, 3, 0));
            Edge.taken("12: racer at paint", () -> of(5, wish, 3), wish, x -> x.slows(0, 4, 0));
            Edge.taken("12: racer at old paint", () -> of(5, wish, 3), wish, x -> x.slows(0, 4, 21));
            Edge.taken("12: racer at a narrowing", () -> of(5, wish, 3), wish / 2 + 5, x -> x.slows(0, 2, 0));
            Edge.taken("12: racer over 1", () -> of(5, wish, 1), Math.max(5, wish - 8) + 5, x -> x.slows(0, 1, 0));
        }
    }

    private static void promise12quotientsAreCut() {
        for (int wish = 10; wish <= 14; wish++) {
            int w = wish;
            int[] half = {5, 5, 6, 6, 7};
            int[] threeFourths = {7, 8, 9, 9, 10};
            Edge.taken("12: half of " + w, () -> of(0, w, 3), half[w - 10], x -> x.slows(0, 2, 0));
            Edge.taken("12: three fourths of " + w, () -> of(0, w, 3), threeFourths[w - 10], x -> x.slows(0, 4, 0));
            Edge.taken("12: 5 less than " + w, () -> of(0, w, 3), w - 5, x -> x.slows(0, 3, 0));
        }
    }

    private static void promise13beyond() {
        Edge.drivers("13: driver", (x, v) -> x.quick(v, 2, 19));
        Edge.range("13: street", Scenes::busy, 0, 2, (x, v) -> x.quick(1, v, 3));
        Edge.range("13: stretch", Scenes::busy, 0, 19, (x, v) -> x.quick(1, 1, v));
        Edge.refused("13: all wrong is one finding", Scenes::busy, Due.BEYOND, x -> x.quick(3, 3, 20));
    }

    private static void promise13wishOnStretch0() {
        for (int wish : new int[] {10, 80}) {
            Edge.taken("13: with nothing on 0", () -> of(2, wish, 3), wish, x -> x.quick(0, 1, 0));
            Edge.taken("13: with nothing up to 19", () -> of(2, wish, 3), wish, x -> x.quick(0, 1, 19));
            Edge.taken("13: with a narrowing on 0", () -> of(2, wish, 3), wish / 2, x -> {
                x.thing(1, 0, 2);
                return x.quick(0, 1, 0);
            });
        }
        // What one is on the last stretch of a street is nothing to the first of the next.
        Edge.taken("13: streets don't run together", () -> of(2, 40, 3), 40, x -> {
            x.thing(0, 19, 1);
            return x.quick(0, 1, 0);
        });
    }

    /** On others: as on the one before, and what it HURRIES, but no more than its WISH. */
    private static void promise13noMoreThanItsWish() {
        int[] hurries = {12, 6, 6, 12, 12, 22};
        int[] bump = {16, 28, 16, 16, 28, 21};
        for (int kind = 0; kind < 6; kind++) {
            int k = kind;
            Due.is("13: hurries", of(k, 40, 3).of(0, 3), hurries[k]);
            Due.is("13: over the bump", behind(k, 40).quick(0, 1, 3), bump[k]);
            Due.is("13: behind it", behind(k, 40).quick(0, 1, 4), Math.min(40, bump[k] + hurries[k]));
            Due.is("13: and then", behind(k, 40).quick(0, 1, 5), Math.min(40, bump[k] + 2 * hurries[k]));
        }
        // At 5 over it whatever the wish: 17 a stretch on.
        for (int wish = 16; wish <= 18; wish++) {
            Due.is("13: just its wish", behind(0, wish).quick(0, 1, 4), Math.min(wish, 17));
        }
    }

    private static BumpStreets behind(int kind, int wish) {
        BumpStreets x = of(kind, wish, 3);
        x.thing(1, 3, 1);
        return x;
    }

    /** With a THING there: that, or what it SLOWS TO, whichever is less. */
    private static void promise13whicheverIsLess() {
        // 8 over the bump, then 14; half of 27 is 13, of 28 is 14, of 30 is 15.
        int[] due = {13, 14, 14};
        int[] wishes = {27, 28, 30};
        for (int i = 0; i < 3; i++) {
            BumpStreets x = of(2, wishes[i], 4);
            x.thing(0, 0, 1);
            x.thing(0, 1, 2);
            Due.is("13: at 8 over the bump", x.quick(0, 0, 0), 8);
            Due.is("13: slows or hurries", x.quick(0, 0, 1), due[i]);
        }
        BumpStreets x = of(2, 40, 4);
        for (int i = 0; i < 3; i++) {
            x.thing(0, i, 1);
        }
        Due.is("13: no slower over the third", x.quick(0, 0, 2), 8);
        // Half of 10, and over the highest bump no less than that.
        BumpStreets y = of(0, 10, 6);
        y.thing(0, 0, 2);
        y.thing(0, 1, 1);
        Due.is("13: 5 and 5", y.quick(0, 0, 0) * 10 + y.quick(0, 0, 1), 55);
    }

    private static void promise14beyond() {
        Edge.drivers("14: driver", (x, v) -> x.takes(v, 0));
        Edge.range("14: street", Scenes::busy, 0, 2, (x, v) -> x.takes(2, v));
        Edge.refused("14: both wrong is one finding", Scenes::busy, Due.BEYOND, x -> x.takes(3, 3));
    }

    /** TAKES: for each STRETCH 1227 by what it is QUICK there (cut), together. */
    private static void promise14eachIsCut() {
        int[] wishes = {10, 11, 40, 41, 79, 80};
        int[] due = {122, 111, 30, 29, 15, 15};
        for (int i = 0; i < wishes.length; i++) {
            int wish = wishes[i];
            Edge.onlyTold("14: at " + wish, () -> of(0, wish, 3), 20 * due[i], x -> x.takes(0, 2));
        }
        // 245 at 5, the slowest that there is; then 122 at 10.
        BumpStreets x = of(0, 10, 1);
        x.thing(2, 19, 1);
        Due.is("14: slowest on the last", x.takes(0, 2), 19 * 122 + 245);
        x.thing(2, 0, 1);
        Due.is("14: slowest on the first, too", x.takes(0, 2), 18 * 122 + 2 * 245);
        for (int i = 0; i < 20; i++) {
            x.thing(2, i, 1);
        }
        Due.is("14: slowest all along", x.takes(0, 2), 20 * 245);
    }

    private static void promise15beyond() {
        Edge.drivers("15: driver", (x, v) -> x.shaken(v, 0));
        Edge.range("15: street", Scenes::busy, 0, 2, (x, v) -> x.shaken(2, v));
        Edge.refused("15: both wrong is one finding", Scenes::busy, Due.BEYOND, x -> x.shaken(3, 3));
    }

    /** SHAKES: v times h by 10, cut at each BUMP, and only then what a kind adds. */
    private static void promise15eachIsCut() {
        // At a wish of 27 over 1: 19 times 1; a bus at 23; a racer at 24.
        int[] due = {1, 3, 2, 1, 3, 3};
        for (int kind = 0; kind < 6; kind++) {
            BumpStreets x = of(kind, 27, 1);
            Due.is("15: no bump", x.shaken(0, 0), 0);
            x.thing(0, 0, 1);
            Due.is("15: one at the start", x.shaken(0, 0), due[kind]);
            x.thing(0, 19, 1);
            Due.is("15: one at the end", x.shaken(0, 0), 2 * due[kind]);
            x.thing(0, 9, 2);
            x.thing(0, 10, 3);
            x.thing(0, 11, 4);
            Due.is("15: only at bumps", x.shaken(0, 0), 2 * due[kind]);
        }
        // 9 and 10 times 1 by 10.
        Edge.taken("15: below one", () -> of(0, 17, 1), 0, DriverEdgesTest::shakenByOneBump);
        Edge.taken("15: just one", () -> of(0, 18, 1), 1, DriverEdgesTest::shakenByOneBump);
        Edge.taken("15: below two", () -> of(0, 27, 1), 1, DriverEdgesTest::shakenByOneBump);
        Edge.taken("15: just two", () -> of(0, 28, 1), 2, DriverEdgesTest::shakenByOneBump);
        // A lorry at 8 over 4: twice 3, not 6.4.
        Edge.taken("15: lorry over 4", () -> of(2, 80, 4), 6, DriverEdgesTest::shakenByOneBump);
        Edge.taken("15: lorry over 6", () -> of(2, 80, 6), 8, DriverEdgesTest::shakenByOneBump);
    }

    private static int shakenByOneBump(BumpStreets x) {
        x.thing(1, 5, 1);
        return x.shaken(0, 1);
    }
}
