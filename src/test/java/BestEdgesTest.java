/** The boundaries that promises 20 to 26, and the terms they use, name. */
public final class BestEdgesTest {
    public static void main(String[] args) {
        promise20beyond();
        promise20none();
        promise20beyondBeforeNone();
        promise20onlyWithNothingOnIt();
        promise20theLeastOfSeveral();
        promise20whereItIsQuickest();
        promise21beyond();
        promise21none();
        promise21beyondBeforeNone();
        promise21onlyWithAThing();
        promise21theLeastOfSeveral();
        promise21onSoManyDays();
        promise22beyond();
        promise22none();
        promise22beyondBeforeNone();
        promise22noMoreThan();
        promise22atMost();
        promise22onSoManyDays();
        promise23beyond();
        promise23theLeastOfSeveral();
        promise24beyond();
        promise24none();
        promise24beyondBeforeNone();
        promise24noMoreThan();
        promise24theLeastOfSeveral();
        promise24from10to80();
        promise24noneBut81();
        promise25beyond();
        promise25theLeastOfSeveral();
        promise25inPlaceOfWhatIsThere();
        promise25onOneDay();
        promise26none();
        promise26theLeastOfSeveral();
        promise26allStreetsTogether();
        Due.end();
    }

    private static void promise20beyond() {
        Edge.drivers("20: driver", (x, v) -> x.tame(v, 1));
        Edge.range("20: street", Scenes::busy, 0, 2, (x, v) -> x.tame(1, v));
    }

    private static void promise20none() {
        for (int street = 0; street < 3; street++) {
            int s = street;
            Edge.refused("20: a thing everywhere", Scenes::packed, Due.NONE, x -> x.tame(0, s));
        }
    }

    private static void promise20beyondBeforeNone() {
        Edge.refused("20: no such one", Scenes::packed, Due.BEYOND, x -> x.tame(1, 0));
        Edge.refused("20: no such one", Scenes::packed, Due.BEYOND, x -> x.tame(-1, 0));
        Edge.refused("20: no such street", Scenes::packed, Due.BEYOND, x -> x.tame(0, 3));
        Edge.refused("20: no such street", Scenes::packed, Due.BEYOND, x -> x.tame(0, -1));
    }

    private static void promise20onlyWithNothingOnIt() {
        for (int i = 0; i < 20; i++) {
            int only = i;
            Edge.onlyTold("20: the only one", () -> packedBut(only), i, x -> x.tame(0, 0));
        }
    }

    private static BumpStreets packedBut(int stretch) {
        BumpStreets x = Scenes.packed();
        x.thing(0, stretch, 0);
        return x;
    }

    /** Narrowings, in which a bus is at 20, but for 2, 5 and 6; bumps of 5, over which it is at 20. */
    private static BumpStreets narrow(int high) {
        BumpStreets x = new BumpStreets();
        x.driver(1);
        x.high(high);
        for (int i = 0; i < 20; i++) {
            x.thing(1, i, i == 2 || i == 5 || i == 6 ? 0 : 2);
        }
        return x;
    }

    private static void promise20theLeastOfSeveral() {
        Edge.onlyTold("20: of all alike", Scenes::one, 0, x -> x.tame(0, 2));
        // At 26 on 2, 26 on 5, 32 on 6: a bump on 5 or on 6 makes it 26, on 2 still 32.
        Edge.onlyTold("20: of two alike", () -> narrow(5), 5, x -> x.tame(0, 1));
    }

    private static void promise20whereItIsQuickest() {
        // With a bump of 4 on 6 it is at 24 there, on 5 at 24 and then at 30: only 6 makes it 26.
        Edge.onlyTold("20: a later one", () -> narrow(4), 6, x -> x.tame(0, 1));
        // With nothing on 0 it is at 40 there, whatever comes elsewhere.
        Edge.onlyTold("20: the first one", () -> {
            BumpStreets x = narrow(6);
            x.thing(1, 0, 0);
            return x;
        }, 0, x -> x.tame(0, 1));
        // With nothing on 18 and 19 it is at 26 and 32 there.
        Edge.onlyTold("20: the last one", () -> {
            BumpStreets x = narrow(4);
            for (int i : new int[] {2, 5, 6}) {
                x.thing(1, i, 2);
            }
            x.thing(1, 18, 0);
            x.thing(1, 19, 0);
            return x;
        }, 19, x -> x.tame(0, 1));
    }

    private static void promise21beyond() {
        Edge.range("21: street", Scenes::packed, 0, 2, (x, v) -> x.clear(v, 0));
        Edge.range("21: n", Scenes::packed, 0, 20, (x, v) -> x.clear(1, v));
        Edge.refused("21: both wrong is one finding", Scenes::busy, Due.BEYOND, x -> x.clear(3, 21));
    }

    private static void promise21none() {
        for (int street = 0; street < 3; street++) {
            int s = street;
            Edge.refused("21: nothing there", Scenes::one, Due.NONE, x -> x.clear(s, 0));
            Edge.refused("21: nothing there", Scenes::one, Due.NONE, x -> x.clear(s, 20));
        }
    }

    private static void promise21beyondBeforeNone() {
        Edge.refused("21: n below 0", Scenes::one, Due.BEYOND, x -> x.clear(0, -1));
        Edge.refused("21: n above 20", Scenes::one, Due.BEYOND, x -> x.clear(0, 21));
        Edge.refused("21: no such street", Scenes::one, Due.BEYOND, x -> x.clear(3, 0));
        Edge.refused("21: no such street", Scenes::one, Due.BEYOND, x -> x.clear(-1, 0));
    }

    private static void promise21onlyWithAThing() {
        for (int i = 0; i < 20; i++) {
            int only = i;
            int v = 1 + i % 4;
            Edge.onlyTold("21: the only one", () -> {
                BumpStreets x = Scenes.one();
                x.thing(1, only, v);
                return x;
            }, i, x -> x.clear(1, 0));
        }
    }

    private static void promise21theLeastOfSeveral() {
        // A narrowing shakes nothing; of two bumps, both 4, the first.
        Edge.onlyTold("21: of two alike", () -> Scenes.told("driver;narrow 0 0;bump 0 8;bump 0 19"), 8, x -> x.clear(0, 0));
        Edge.onlyTold("21: of all alike", () -> Scenes.told("driver;sign 0 3;narrow 0 4;paint 0 9"), 3, x -> x.clear(0, 0));
        Edge.onlyTold("21: the first one", () -> Scenes.told("driver;bump 0 0;narrow 0 7;sign 0 19"), 0, x -> x.clear(0, 0));
        Edge.onlyTold("21: the last one", () -> Scenes.told("driver;sign 0 0;narrow 0 7;bump 0 19"), 19, x -> x.clear(0, 0));
        Edge.onlyTold("21: the first of two alike", () -> Scenes.told("driver;bump 0 0;bump 0 19"), 0, x -> x.clear(0, 0));
        Edge.onlyTold("21: by nobody", () -> Scenes.told("bump 2 18;bump 2 19"), 18, x -> x.clear(2, 20));
    }

    /** Cleared now: then n DAYS go, and all choose by what is left. */
    private static void promise21onSoManyDays() {
        // It stays in 0 with no days; on a day it leaves for 1 if the sign there is cleared, not for 2.
        String text = "driver;bump 0 0;sign 1 4;bump 1 5;bump 2 0;bump 2 1";
        Edge.onlyTold("21: no days", () -> Scenes.told(text), 4, x -> x.clear(1, 0));
        Edge.onlyTold("21: one day", () -> Scenes.told(text), 5, x -> x.clear(1, 1));
        // Paint of 0 days works on the 20th still, of 1 day no more.
        Edge.onlyTold("21: twenty days", () -> painted(0), 3, x -> x.clear(0, 20));
        Edge.onlyTold("21: twenty days and one", () -> painted(1), 2, x -> x.clear(0, 20));
        Edge.onlyTold("21: nineteen days and one", () -> painted(1), 3, x -> x.clear(0, 19));
    }

    /**
     * In 0 a sign (5 tenths more) and a low bump (8), in 1 paint (10), in 2 two bumps. While the
     * paint works the driver stays in 0 with either cleared, and the bump is what shakes;
     * when it has ended all go to 1, whatever is cleared.
     */
    private static BumpStreets painted(int age) {
        BumpStreets x = Scenes.told("driver;high 1;sign 0 2;bump 0 3;paint 1 0;bump 2 0;bump 2 1");
        if (age > 0) {
            x.days(age);
        }
        x.set(0, 2, 0);
        return x;
    }

    private static void promise22beyond() {
        Edge.range("22: n", Scenes::one, 0, 20, (x, v) -> x.lower(v, 0));
        Edge.range("22: v", Scenes::one, 0, 99999, (x, v) -> x.lower(0, v));
        Edge.range("22: n", Scenes::busy, 0, 20, (x, v) -> x.lower(v, 9999));
        Edge.refused("22: both wrong is one finding", Scenes::busy, Due.BEYOND, x -> x.lower(21, 100000));
    }

    /** A bus over a bump in each street: 4, 8, 11, 13, 15, 15 by how high it is. */
    private static BumpStreets busOverBump() {
        return Scenes.told("bus;bump 0 0;bump 1 0;bump 2 0");
    }

    private static void promise22none() {
        Edge.refused("22: too much even over 1", BestEdgesTest::busOverBump, Due.NONE, x -> x.lower(0, 3));
        Edge.refused("22: on 20 days, too", BestEdgesTest::busOverBump, Due.NONE, x -> x.lower(20, 3));
        Edge.refused("22: nothing at all", BestEdgesTest::busOverBump, Due.NONE, x -> x.lower(0, 0));
    }

    private static void promise22beyondBeforeNone() {
        Edge.refused("22: v below 0", BestEdgesTest::busOverBump, Due.BEYOND, x -> x.lower(0, -1));
        Edge.refused("22: n below 0", BestEdgesTest::busOverBump, Due.BEYOND, x -> x.lower(-1, 0));
        Edge.refused("22: n above 20", BestEdgesTest::busOverBump, Due.BEYOND, x -> x.lower(21, 0));
        Edge.refused("22: v above 99999", BestEdgesTest::busOverBump, Due.BEYOND, x -> x.lower(0, 100000));
    }

    private static void promise22noMoreThan() {
        int[] v = {4, 7, 8, 10, 11, 12, 13, 14, 15, 16, 99999};
        int[] due = {1, 1, 2, 2, 3, 3, 4, 4, 6, 6, 6};
        for (int i = 0; i < v.length; i++) {
            int most = v[i];
            Edge.onlyTold("22: no more than " + most, BestEdgesTest::busOverBump, due[i], x -> x.lower(0, most));
        }
    }

    /** At most: the highest that keeps to it, though a lower one between may not. */
    private static void promise22atMost() {
        Edge.onlyTold("22: with nobody", Scenes::empty, 6, x -> x.lower(0, 0));
        Edge.onlyTold("22: with no bump", Scenes::one, 6, x -> x.lower(20, 0));
        // A driver of 45: 3 (37), 5 (29), 6 (21), 5 (13), 2 (5), 3 (5).
        String text = "driver wish 45;bump 0 0;bump 1 0;bump 2 0";
        Edge.onlyTold("22: 6 where 5 shakes less", () -> Scenes.told(text), 6, x -> x.lower(0, 3));
        Edge.onlyTold("22: 5 where 4 shakes more", () -> Scenes.told(text), 5, x -> x.lower(0, 2));
    }

    private static void promise22onSoManyDays() {
        // Nothing in street 1: on a day the bus is there.
        String text = "bus;bump 0 0;bump 2 0";
        Edge.onlyTold("22: no days", () -> Scenes.told(text), 1, x -> x.lower(0, 4));
        Edge.onlyTold("22: one day", () -> Scenes.told(text), 6, x -> x.lower(1, 0));
        // Paint all along 1 and 2 is worse than any bump, until it ends.
        Edge.refused("22: twenty days", () -> paintAlong(0), Due.NONE, x -> x.lower(20, 3));
        Edge.onlyTold("22: twenty days and one", () -> paintAlong(1), 6, x -> x.lower(20, 3));
        Edge.refused("22: nineteen days and one", () -> paintAlong(1), Due.NONE, x -> x.lower(19, 3));
    }

    /** A bus in 0 with one bump, and paint all along the others. */
    private static BumpStreets paintAlong(int age) {
        BumpStreets x = new BumpStreets();
        x.driver(1);
        x.sheet(0, 8, 20);
        for (int i = 0; i < 20; i++) {
            x.write(0, i, 4);
        }
        x.lays(0, 1);
        x.lays(0, 2);
        x.thing(0, 0, 1);
        if (age > 0) {
            x.days(age);
        }
        return x;
    }

    private static void promise23beyond() {
        Edge.drivers("23: driver", (x, v) -> x.kind(v, 1));
        Edge.range("23: street", Scenes::busy, 0, 2, (x, v) -> x.kind(1, v));
        Edge.refused("23: both wrong is one finding", Scenes::busy, Due.BEYOND, x -> x.kind(3, 3));
    }

    private static void promise23theLeastOfSeveral() {
        for (int kind = 0; kind < 6; kind++) {
            int own = kind;
            // Nothing there: all alike.
            Edge.onlyTold("23: of all", () -> ofKind(own, 0, 0), 0, x -> x.kind(0, 0));
            // A bump at the end: a bus and an ambulance at 28.
            Edge.onlyTold("23: bus of two", () -> ofKind(own, 19, 1), 1, x -> x.kind(0, 0));
            // A bump before the end: the ambulance hurries more.
            Edge.onlyTold("23: ambulance", () -> ofKind(own, 10, 1), 4, x -> x.kind(0, 0));
            // A sign at the end: a local and a racer don't mind.
            Edge.onlyTold("23: local of two", () -> ofKind(own, 19, 3), 3, x -> x.kind(0, 0));
            Edge.onlyTold("23: ambulance in a narrowing", () -> ofKind(own, 19, 2), 4, x -> x.kind(0, 0));
        }
        // At 11 over bumps of 3: 5 but for the racer's 10.
        Edge.onlyTold("23: the last kind", () -> Scenes.told("bus wish 11;bump 0 7"), 5, x -> x.kind(0, 0));
    }

    private static BumpStreets ofKind(int kind, int stretch, int thing) {
        BumpStreets x = new BumpStreets();
        x.driver(kind);
        x.thing(0, stretch, thing);
        return x;
    }

    private static void promise24beyond() {
        Edge.drivers("24: driver", (x, v) -> x.wish(v, 1, 9999));
        Edge.range("24: street", Scenes::busy, 0, 2, (x, v) -> x.wish(1, v, 9999));
        for (int t : new int[] {Integer.MIN_VALUE, -1, 10000, Integer.MAX_VALUE}) {
            Edge.refused("24: t " + t, Scenes::busy, Due.BEYOND, x -> x.wish(1, 1, t));
        }
        Edge.taken("24: t 9999", Scenes::one, 10, x -> x.wish(0, 1, 9999));
        Edge.refused("24: t 0 is none", Scenes::busy, Due.NONE, x -> x.wish(1, 1, 0));
    }

    private static void promise24none() {
        // 20 times 15 at 77 to 80.
        Edge.refused("24: too quick for all", Scenes::one, Due.NONE, x -> x.wish(0, 0, 299));
        Edge.onlyTold("24: just quick enough", Scenes::one, 77, x -> x.wish(0, 0, 300));
    }

    private static void promise24beyondBeforeNone() {
        Edge.refused("24: t below 0", Scenes::one, Due.BEYOND, x -> x.wish(0, 0, -1));
        Edge.refused("24: no such one", Scenes::one, Due.BEYOND, x -> x.wish(1, 0, 0));
        Edge.refused("24: no such one", Scenes::one, Due.BEYOND, x -> x.wish(-1, 0, 0));
        Edge.refused("24: no such street", Scenes::one, Due.BEYOND, x -> x.wish(0, 3, 0));
        Edge.refused("24: no such street", Scenes::one, Due.BEYOND, x -> x.wish(0, -1, 0));
    }

    private static void promise24noMoreThan() {
        // 20 times 122 at 10, 111 at 11, 102 at 12.
        Edge.onlyTold("24: no more than 2440", Scenes::one, 10, x -> x.wish(0, 0, 2440));
        Edge.onlyTold("24: no more than 2439", Scenes::one, 11, x -> x.wish(0, 0, 2439));
        Edge.onlyTold("24: no more than 2220", Scenes::one, 11, x -> x.wish(0, 0, 2220));
        Edge.onlyTold("24: no more than 2219", Scenes::one, 12, x -> x.wish(0, 0, 2219));
    }

    private static void promise24theLeastOfSeveral() {
        // Over 1: nothing is shaken up to 17 (at 9), 1 up to 27.
        String low = "driver;high 1;bump 0 0";
        Edge.onlyTold("24: least of those that shake nothing", () -> Scenes.told(low), 10, x -> x.wish(0, 0, 9999));
        // At 18 it takes 122 and then 68 each: of those that shake 1 the slowest.
        Edge.onlyTold("24: 17 takes 136 and 72 each", () -> Scenes.told(low), 17, x -> x.wish(0, 0, 136 + 19 * 72));
        Edge.onlyTold("24: less time than that", () -> Scenes.told(low), 18, x -> x.wish(0, 0, 136 + 19 * 72 - 1));
        Edge.onlyTold("24: 18 takes 122 and 68 each", () -> Scenes.told(low), 18, x -> x.wish(0, 0, 122 + 19 * 68));
        Edge.onlyTold("24: less time than that", () -> Scenes.told(low), 19, x -> x.wish(0, 0, 122 + 19 * 68 - 1));
    }

    private static void promise24from10to80() {
        // A lorry is at 8 over 4 whatever it wishes: at 10 it takes 153 and 122 each.
        String high = "lorry;high 4;bump 0 0";
        Edge.onlyTold("24: from 10 on", () -> Scenes.told(high), 10, x -> x.wish(0, 0, 9999));
        // Up from 8 by 6: at 74 and more 153, 87, 61, 47, 38, 32, 27, 24, 21, 19, 18, 16.
        int before = 153 + 87 + 61 + 47 + 38 + 32 + 27 + 24 + 21 + 19 + 18;
        Edge.onlyTold("24: up to 80", () -> Scenes.told(high), 77, x -> x.wish(0, 0, before + 16 + 8 * 15));
        Edge.refused("24: no more than 80", () -> Scenes.told(high), Due.NONE, x -> x.wish(0, 0, before + 16 + 8 * 15 - 1));
        Edge.onlyTold("24: only 80", BestEdgesTest::onlyEighty, 80, x -> x.wish(0, 0, onlyEighty().takes(0, 0)));
        Edge.refused("24: not even 80", BestEdgesTest::onlyEighty, Due.NONE, x -> x.wish(0, 0, onlyEighty().takes(0, 0) - 1));
    }

    /** Over a bump of 1 it is at 72 of 80 and would be at 73 of 81: 17 and 16, and 15 each behind it. */
    private static void promise24noneBut81() {
        String low = "driver;high 1;bump 0 0";
        Edge.onlyTold("24: 17 and 15 each", () -> Scenes.told(low), 77, x -> x.wish(0, 0, 17 + 19 * 15));
        Edge.refused("24: only 81 would do", () -> Scenes.told(low), Due.NONE, x -> x.wish(0, 0, 16 + 19 * 15));
    }

    /** Narrowings all along: half of 80 is 40, of 79 is 39, which takes 31. */
    private static BumpStreets onlyEighty() {
        BumpStreets x = Scenes.one();
        x.set(0, 1, 80);
        for (int i = 0; i < 20; i++) {
            x.thing(0, i, 2);
        }
        return x;
    }

    private static void promise25beyond() {
        Edge.range("25: stretch", Scenes::empty, 0, 19, (x, v) -> x.drives(v));
        Edge.range("25: stretch", Scenes::busy, 0, 19, (x, v) -> x.drives(v));
    }

    private static void promise25theLeastOfSeveral() {
        Edge.onlyTold("25: nobody there", Scenes::empty, 0, x -> x.drives(19));
        Edge.onlyTold("25: one in each", () -> Scenes.told("driver;driver in 1;driver in 2"), 0, x -> x.drives(0));
        Edge.onlyTold("25: one in 1 and in 2", () -> Scenes.told("driver in 2;driver in 1"), 1, x -> x.drives(19));
        Edge.onlyTold("25: two in 2", () -> Scenes.told("bus;bus in 2;bus in 1;bus in 2"), 2, x -> x.drives(19));
        Edge.onlyTold("25: two in 0 and in 2", () -> Scenes.told("bus;bus in 2;bus in 1;bus in 2;bus"), 0, x -> x.drives(19));
        Edge.onlyTold("25: nobody leaves", () -> Scenes.told("bus in 2;bump 0 0;bump 0 1;bump 1 0;bump 1 1"), 0, x -> x.drives(19));
        Edge.onlyTold("25: all eight", BestEdgesTest::eight, 2, x -> x.drives(7));
    }

    /** Three in 0, one in 1 and four in 2: only with the eighth are these most. */
    private static BumpStreets eight() {
        BumpStreets x = new BumpStreets();
        for (int d = 0; d < 8; d++) {
            x.driver(0);
            x.set(d, 2, d < 3 ? 0 : d == 3 ? 1 : 2);
        }
        return x;
    }

    private static void promise25inPlaceOfWhatIsThere() {
        // A bump in place of a bump is nothing new.
        String text = "driver in 2;bump 2 5;bump 0 5;bump 1 5";
        Edge.onlyTold("25: bumps that are there", () -> Scenes.told(text), 0, x -> x.drives(5));
        Edge.onlyTold("25: one more", () -> Scenes.told(text), 2, x -> x.drives(6));
        // A low bump in place of a narrowing in 1 makes that street the one to go to.
        String low = "driver in 2;high 1;narrow 0 5;narrow 1 5;narrow 2 5;narrow 0 6";
        Edge.onlyTold("25: a bump that calls it", () -> Scenes.told(low), 1, x -> x.drives(5));
    }

    private static void promise25onOneDay() {
        // Paint in 1 that is 21 tomorrow: it leaves whatever comes, but for a bump in 1.
        for (int age : new int[] {19, 20}) {
            BumpStreets x = Scenes.told("driver in 2;paint 1 0;bump 0 0;sign 2 0");
            x.days(age);
            x.set(0, 2, 2);
            Due.is("25: paint of " + age, x.drives(9), age == 19 ? 2 : 0);
            Due.is("25: nothing changes", x.of(0, 2) * 1000 + x.now(0), 2000 + age);
        }
    }

    private static void promise26none() {
        Edge.refused("26: nobody is there", Scenes::empty, Due.NONE, x -> x.slowest());
        Edge.onlyTold("26: one is there", Scenes::one, 0, x -> x.slowest());
    }

    private static void promise26theLeastOfSeveral() {
        Edge.onlyTold("26: of two alike", () -> Scenes.told("bus;bus"), 0, x -> x.slowest());
        Edge.onlyTold("26: of two slow ones", () -> Scenes.told("bus wish 50;bus;lorry;bus wish 41"), 1, x -> x.slowest());
        Edge.onlyTold("26: the last of eight", Scenes::crowded, 7, x -> {
            x.set(7, 1, 10);
            int slowest = x.slowest();
            x.set(7, 1, 40);
            return slowest;
        });
    }

    private static void promise26allStreetsTogether() {
        for (int street = 0; street < 3; street++) {
            int s = street;
            Edge.onlyTold("26: by street " + s + " alone", () -> Scenes.told("local;bus;sign " + s + " 19"), 1, x -> x.slowest());
            Edge.onlyTold("26: by street " + s + " alone", () -> Scenes.told("bus;local;bump " + s + " 19"), 1, x -> x.slowest());
        }
        // In 0 and 1 the bus is the quicker, in 2 by more the slower; in whichever street they go.
        BumpStreets x = Scenes.told("local;bus;bump 0 19;bump 1 19");
        Due.is("26: two bumps", x.slowest(), 0);
        x.thing(2, 18, 2);
        x.thing(2, 15, 2);
        x.thing(2, 12, 2);
        x.thing(2, 9, 2);
        x.thing(2, 6, 2);
        int local = x.takes(0, 0) + x.takes(0, 1) + x.takes(0, 2);
        int bus = x.takes(1, 0) + x.takes(1, 1) + x.takes(1, 2);
        Due.is("26: the bus together", bus > local ? 1 : 0, 1);
        Due.is("26: and narrowings", x.slowest(), 1);
        x.set(0, 2, 1);
        x.set(1, 2, 1);
        Due.is("26: whichever street they go in", x.slowest(), 1);
    }
}
