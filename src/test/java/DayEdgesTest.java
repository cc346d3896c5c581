/** The boundaries that promises 16 to 19, and the terms they use, name. */
public final class DayEdgesTest {
    public static void main(String[] args) {
        promise16beyond();
        promise16state();
        promise16beyondBeforeState();
        promise16shakenThen();
        promise16ageComesFirst();
        promise16itsOwnOfSeveral();
        promise16elseTheLeast();
        promise16onlyWhatTakesLess();
        promise16eachOfEight();
        promise17beyond();
        promise17noDays();
        promise17allAsItIs();
        promise17nothingChanges();
        promise17atTheLastDay();
        promise18beyond();
        promise18noDays();
        promise18paintEnds();
        promise18ofNobody();
        promise19beyond();
        promise19none();
        promise19first();
        promise19paintEnds();
        Due.end();
    }

    private static void promise16beyond() {
        Edge.range("16: n", Scenes::busy, 1, 100, (x, v) -> x.days(v));
        for (int n : new int[] {1, 2, 99, 100}) {
            Edge.taken("16: day after " + n, Scenes::empty, n, x -> {
                x.days(n);
                return x.now(0);
            });
        }
    }

    /** DAY 9999 at most. STATE: DAY would be above 9999. */
    private static void promise16state() {
        Edge.taken("16: 100 to 9999", () -> Scenes.atDay(9899), 9999, x -> {
            x.days(100);
            return x.now(0);
        });
        Edge.refused("16: 100 above it", () -> Scenes.atDay(9900), Due.STATE, x -> x.days(100));
        Edge.taken("16: 99 to 9999", () -> Scenes.atDay(9900), 9999, x -> {
            x.days(99);
            return x.now(0);
        });
        Edge.taken("16: 1 to 9999", () -> Scenes.atDay(9998), 9999, x -> {
            x.days(1);
            return x.now(0);
        });
        Edge.refused("16: 2 above it", () -> Scenes.atDay(9998), Due.STATE, x -> x.days(2));
        Edge.refused("16: 1 above it", () -> Scenes.atDay(9999), Due.STATE, x -> x.days(1));
        Edge.refused("16: paint grows no older", DayEdgesTest::lastDayWithPaint, Due.STATE, x -> x.days(1));
    }

    private static BumpStreets lastDayWithPaint() {
        BumpStreets x = Scenes.one();
        Scenes.goTo(x, 9979);
        x.thing(0, 4, 4);
        x.thing(1, 4, 1);
        x.thing(2, 4, 1);
        x.days(20);
        x.set(0, 2, 1);
        return x;
    }

    private static void promise16beyondBeforeState() {
        for (int n : new int[] {Integer.MIN_VALUE, -1, 0, 101, Integer.MAX_VALUE}) {
            Edge.refused("16: n " + n + " at the last day", () -> Scenes.atDay(9999), Due.BEYOND, x -> x.days(n));
        }
        Edge.refused("16: n 100 at the last day", () -> Scenes.atDay(9999), Due.STATE, x -> x.days(100));
    }

    private static void promise16shakenThen() {
        Edge.taken("16: shaken by nobody", Scenes::empty, 0, x -> {
            x.thing(0, 0, 1);
            return x.days(1);
        });
        BumpStreets x = Scenes.one();
        x.thing(0, 0, 1);
        Due.is("16: shaken now", x.now(2), 4);
        Due.is("16: shaken then", x.days(1), 0);
        x.thing(0, 1, 1);
        x.thing(1, 0, 1);
        x.thing(2, 0, 1);
        Due.is("16: shaken by all then", x.days(1), 4);
    }

    /** A DAY goes: each AGE is 1 more, and each chooses by that. */
    private static void promise16ageComesFirst() {
        BumpStreets x = Scenes.one();
        x.thing(0, 0, 3);
        x.thing(1, 0, 4);
        x.thing(2, 0, 1);
        x.days(20);
        Due.is("16: paint of 20 days works", x.stretch(1, 0, 1) * 10 + x.of(0, 2), 200);
        x.days(1);
        Due.is("16: not on the day it is 21", x.stretch(1, 0, 1) * 10 + x.of(0, 2), 211);
        // The same within one call, and when the call comes after a day of its own.
        for (int n : new int[] {20, 21, 22, 100}) {
            BumpStreets y = Scenes.one();
            y.thing(0, 0, 3);
            y.thing(1, 0, 4);
            y.thing(2, 0, 1);
            y.days(n);
            Due.is("16: after " + n + " days at once", y.of(0, 2), n < 21 ? 0 : 1);
        }
    }

    private static void promise16itsOwnOfSeveral() {
        for (int own = 0; own < 3; own++) {
            int street = own;
            Edge.taken("16: its own of three", Scenes::one, own, x -> {
                x.set(0, 2, street);
                x.days(1);
                return x.of(0, 2);
            });
            for (int worse = 0; worse < 3; worse++) {
                int bumped = worse;
                if (worse != own) {
                    Edge.taken("16: its own of two", Scenes::one, own, x -> {
                        x.set(0, 2, street);
                        x.thing(bumped, 7, 3);
                        x.days(1);
                        return x.of(0, 2);
                    });
                }
            }
        }
    }

    private static void promise16elseTheLeast() {
        for (int own = 0; own < 3; own++) {
            int street = own;
            Edge.taken("16: the least of two others", Scenes::one, own == 0 ? 1 : 0, x -> {
                x.set(0, 2, street);
                x.thing(street, 7, 3);
                x.days(1);
                return x.of(0, 2);
            });
            for (int good = 0; good < 3; good++) {
                int only = good;
                Edge.taken("16: the only one that takes it least", Scenes::one, good, x -> {
                    x.set(0, 2, street);
                    for (int s = 0; s < 3; s++) {
                        x.thing(s, 7, s == only ? 3 : 1);
                    }
                    x.days(1);
                    return x.of(0, 2);
                });
            }
        }
    }

    /** What TAKES it less, be it by a tenth of a second, not where it is quicker. */
    private static void promise16onlyWhatTakesLess() {
        BumpStreets x = new BumpStreets();
        x.driver(5);
        x.set(0, 1, 80);
        x.high(1);
        x.thing(0, 5, 1);
        // At 77 and at 80 a stretch takes 15 alike.
        Due.is("16: slower", x.quick(0, 0, 5), 77);
        Due.is("16: and yet as much", x.takes(0, 0), 300);
        x.days(1);
        Due.is("16: so it stays", x.of(0, 2), 0);
        // At 79 it is at 76 there, which takes 16.
        x.set(0, 1, 79);
        Due.is("16: a tenth of a second more", x.takes(0, 0) - x.takes(0, 1), 1);
        x.days(1);
        Due.is("16: so it leaves", x.of(0, 2), 1);
    }

    private static void promise16eachOfEight() {
        BumpStreets x = new BumpStreets();
        for (int d = 0; d < 8; d++) {
            x.driver(0);
        }
        x.thing(0, 0, 1);
        x.thing(1, 0, 1);
        x.days(1);
        Due.is("16: all eight leave", x.street(2, 2), 255);
    }

    private static void promise17beyond() {
        Edge.drivers("17: driver", (x, v) -> x.on(v, 1));
        Edge.range("17: n", Scenes::busy, 0, 100, (x, v) -> x.on(1, v));
        Edge.refused("17: both wrong is one finding", Scenes::busy, Due.BEYOND, x -> x.on(3, 101));
    }

    private static BumpStreets bumpInItsStreet() {
        BumpStreets x = Scenes.one();
        x.set(0, 2, 2);
        x.thing(2, 0, 1);
        return x;
    }

    private static void promise17noDays() {
        Edge.onlyTold("17: no days", DayEdgesTest::bumpInItsStreet, 2, x -> x.on(0, 0));
        Edge.onlyTold("17: one day", DayEdgesTest::bumpInItsStreet, 0, x -> x.on(0, 1));
    }

    /** ON goes on with all as it is: with each driver's kind, wish and street, and each thing's age. */
    private static void promise17allAsItIs() {
        for (int d = 0; d < 8; d++) {
            BumpStreets x = new BumpStreets();
            for (int i = 0; i < 8; i++) {
                x.driver(i == d ? 3 : 0);
                x.set(i, 2, 2);
            }
            x.thing(2, 0, 3);
            // A sign in its street: only the local stays.
            for (int i = 0; i < 8; i++) {
                Due.is("17: on 1 with local " + d, x.on(i, 1), i == d ? 2 : 0);
            }
        }
        for (int place = 0; place < 60; place++) {
            int street = place / 20;
            BumpStreets x = Scenes.one();
            x.set(0, 2, street);
            x.thing(street, place % 20, 4);
            x.days(20);
            x.set(0, 2, street);
            Due.is("17: paint of 20 days on " + place, x.on(0, 1), street);
            x.thing(street, place % 20, 4);
            Due.is("17: paint of no days on " + place, x.on(0, 1) != street ? 1 : 0, 1);
        }
    }

    private static void promise17nothingChanges() {
        for (int n : new int[] {0, 1, 20, 100}) {
            BumpStreets x = Scenes.busy();
            int due = n == 0 ? x.of(1, 2) : daysLater(n).of(1, 2);
            Edge.onlyTold("17: on " + n, Scenes::busy, due, y -> y.on(1, n));
        }
    }

    private static BumpStreets daysLater(int n) {
        BumpStreets x = Scenes.busy();
        x.days(n);
        return x;
    }

    /** Only days() asks whether DAY would be above 9999. */
    private static void promise17atTheLastDay() {
        Edge.onlyTold("17: on 0 at the last day", DayEdgesTest::lastDayWithPaint, 1, x -> x.on(0, 0));
        Edge.onlyTold("17: on 1 at the last day", DayEdgesTest::lastDayWithPaint, 0, x -> x.on(0, 1));
        Edge.onlyTold("17: on 100 at the last day", DayEdgesTest::lastDayWithPaint, 0, x -> x.on(0, 100));
        Edge.onlyTold("18: then 1 at the last day", DayEdgesTest::lastDayWithPaint, 0, x -> x.then(1, 0));
        Edge.onlyTold("19: leaves at the last day", DayEdgesTest::lastDayWithPaint, 1, x -> x.leaves(0));
    }

    private static void promise18beyond() {
        Edge.range("18: n", Scenes::busy, 0, 100, (x, v) -> x.then(v, 0));
        Edge.range("18: n", Scenes::busy, 0, 100, (x, v) -> x.then(v, 1));
        Edge.range("18: what", Scenes::busy, 0, 1, (x, v) -> x.then(1, v));
        Edge.refused("18: both wrong is one finding", Scenes::busy, Due.BEYOND, x -> x.then(101, 2));
    }

    private static void promise18noDays() {
        Edge.onlyTold("18: shaken in no days", DayEdgesTest::bumpInItsStreet, 4, x -> x.then(0, 0));
        Edge.onlyTold("18: shaken in one", DayEdgesTest::bumpInItsStreet, 0, x -> x.then(1, 0));
        Edge.onlyTold("18: takes in no days", DayEdgesTest::bumpInItsStreet, 76 + 43 + 18 * 30, x -> x.then(0, 1));
        Edge.onlyTold("18: takes in one", DayEdgesTest::bumpInItsStreet, 600, x -> x.then(1, 1));
    }

    /** Paint in all streets: 1227 by 30 is 40 on the last stretch, and 30 from the 21st day on. */
    private static BumpStreets paintEverywhere() {
        BumpStreets x = Scenes.one();
        for (int street = 0; street < 3; street++) {
            x.thing(street, 19, 4);
        }
        return x;
    }

    private static void promise18paintEnds() {
        int[] days = {0, 1, 19, 20, 21, 22, 100};
        for (int n : days) {
            int due = n < 21 ? 610 : 600;
            Edge.onlyTold("18: takes in " + n, DayEdgesTest::paintEverywhere, due, x -> x.then(n, 1));
        }
    }

    private static void promise18ofNobody() {
        Edge.onlyTold("18: shaken by nobody", Scenes::empty, 0, x -> x.then(100, 0));
        Edge.onlyTold("18: takes nobody", Scenes::empty, 0, x -> x.then(100, 1));
    }

    private static void promise19beyond() {
        Edge.refused("19: driver 0 of none", Scenes::empty, Due.BEYOND, x -> x.leaves(0));
        Edge.refused("19: driver 1 of one", Scenes::one, Due.BEYOND, x -> x.leaves(1));
        for (int d : new int[] {Integer.MIN_VALUE, -1, 8, Integer.MAX_VALUE}) {
            Edge.refused("19: driver " + d, Scenes::crowded, Due.BEYOND, x -> x.leaves(d));
        }
        Edge.taken("19: the last one", Scenes::crowded, 1, x -> {
            x.thing(1, 0, 1);
            x.thing(1, 1, 1);
            x.set(7, 2, 1);
            return x.leaves(7);
        });
    }

    private static void promise19none() {
        Edge.refused("19: it never leaves", Scenes::one, Due.NONE, x -> x.leaves(0));
        Edge.refused("19: nor where all are alike", DayEdgesTest::paintEverywhere, Due.NONE, x -> x.leaves(0));
        Edge.refused("19: nor where it is best", Scenes::busy, Due.NONE, x -> {
            return x.leaves(bestPlaced());
        });
    }

    /** One of busy() that goes already where it goes on all days, by other calls. */
    private static int bestPlaced() {
        BumpStreets x = Scenes.busy();
        for (int d = 0; d < 3; d++) {
            boolean stays = true;
            for (int n = 1; n <= 100; n++) {
                stays &= x.on(d, n) == x.of(d, 2);
            }
            if (stays) {
                return d;
            }
        }
        return -1;
    }

    private static void promise19first() {
        Edge.onlyTold("19: tomorrow", DayEdgesTest::bumpInItsStreet, 1, x -> x.leaves(0));
        // To 1 at once, and back to 2 when its paint ends: the first counts.
        BumpStreets x = Scenes.one();
        x.set(0, 2, 2);
        x.thing(0, 0, 1);
        x.thing(1, 0, 3);
        x.thing(2, 0, 4);
        Due.is("19: on 1", x.on(0, 1), 1);
        Due.is("19: on 21", x.on(0, 21), 2);
        Due.is("19: the first", x.leaves(0), 1);
    }

    private static void promise19paintEnds() {
        for (int age = 0; age <= 22; age++) {
            BumpStreets x = Scenes.one();
            x.thing(0, 0, 3);
            x.thing(1, 0, 4);
            x.thing(2, 0, 1);
            if (age > 0) {
                x.days(age);
            }
            x.set(0, 2, 0);
            Due.is("19: paint of " + age + " days", x.leaves(0), age < 21 ? 21 - age : 1);
            Due.is("19: still there", x.of(0, 2), 0);
        }
    }
}
