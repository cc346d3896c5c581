/** The boundaries that promises 1 to 6, and the terms they use, name. */
public final class StreetEdgesTest {
    public static void main(String[] args) {
        promise1nothingInTheStreets();
        promise1noDrivers();
        promise1tapeIsEmpty();
        promise1noImage();
        promise1atFirst();
        promise2beyond();
        promise2streetsDontRunTogether();
        promise2whatItWas();
        promise2paintOfAge0();
        promise3beyond();
        promise3ageOnlyOfPaint();
        promise3ageIsHeld();
        promise4beyond();
        promise4allAlike();
        promise5beyond();
        promise5setOfStretches();
        promise5bumps();
        promise5setOfDrivers();
        promise5shakenThere();
        promise6beyond();
        promise6ofNobody();
        promise6ofAll();
        Due.end();
    }

    private static void promise1nothingInTheStreets() {
        BumpStreets x = new BumpStreets();
        for (int street = 0; street < 3; street++) {
            Due.is("1: nothing in street " + street, x.street(street, 0), 0);
            for (int i = 0; i < 20; i++) {
                Due.is("1: nothing on " + i, x.stretch(street, i, 0), 0);
                Due.is("1: of no age on " + i, x.stretch(street, i, 1), 0);
            }
        }
    }

    private static void promise1noDrivers() {
        Edge.taken("1: no drivers", Scenes::empty, 0, x -> x.count(0));
        Edge.refused("1: no driver 0", Scenes::empty, Due.BEYOND, x -> x.of(0, 0));
    }

    private static void promise1tapeIsEmpty() {
        Edge.taken("1: no bytes", Scenes::empty, 0, x -> x.count(1));
        Edge.taken("1: nothing to wipe", Scenes::empty, 0, x -> x.wipe());
        Edge.taken("1: no text", Scenes::empty, -1, x -> x.town());
    }

    private static void promise1noImage() {
        Edge.refused("1: nothing to undo", Scenes::empty, Due.NONE, x -> x.undo());
        Edge.taken("1: nothing to tear", Scenes::empty, 0, x -> x.tear());
    }

    private static void promise1atFirst() {
        Edge.taken("1: day at first", Scenes::empty, 0, x -> x.now(0));
        Edge.taken("1: high at first", Scenes::empty, 3, x -> x.now(1));
        Edge.taken("1: wish at first", Scenes::one, 40, x -> x.of(0, 1));
        Edge.taken("1: street at first", Scenes::one, 0, x -> x.of(0, 2));
        for (int sheet = 0; sheet < 4; sheet++) {
            int s = sheet;
            Edge.refused("1: sheet missing at first", Scenes::empty, Due.MISSING, x -> x.write(s, 0, 1));
        }
        for (int finding = -1; finding < 7; finding++) {
            int which = finding;
            Edge.taken("1: no findings at first", Scenes::empty, 0, x -> x.status(which));
        }
    }

    private static void promise2beyond() {
        Edge.range("2: street", Scenes::busy, 0, 2, (x, v) -> x.thing(v, 10, 1));
        Edge.range("2: stretch", Scenes::busy, 0, 19, (x, v) -> x.thing(1, v, 1));
        Edge.range("2: v", Scenes::busy, 0, 4, (x, v) -> x.thing(1, 4, v));
        Edge.refused("2: all wrong is one finding", Scenes::busy, Due.BEYOND, x -> x.thing(3, 20, 5));
    }

    /** The last stretch of a street is not the one before the first of the next. */
    private static void promise2streetsDontRunTogether() {
        BumpStreets x = new BumpStreets();
        Due.is("2: last of 0", x.thing(0, 19, 1), 0);
        Due.is("2: first of 1", x.thing(1, 0, 2), 0);
        Due.is("2: last of 1", x.thing(1, 19, 3), 0);
        Due.is("2: first of 2", x.thing(2, 0, 4), 0);
        Due.is("2: all of 0", x.street(0, 0), 1 << 19);
        Due.is("2: all of 1", x.street(1, 0), 1 << 19 | 1);
        Due.is("2: all of 2", x.street(2, 0), 1);
        Due.is("2: last of 0", x.stretch(0, 19, 0), 1);
        Due.is("2: first of 1", x.stretch(1, 0, 0), 2);
        Due.is("2: last of 1", x.stretch(1, 19, 0), 3);
        Due.is("2: first of 2", x.stretch(2, 0, 0), 4);
    }

    private static void promise2whatItWas() {
        BumpStreets x = new BumpStreets();
        int was = 0;
        for (int v : new int[] {4, 0, 1, 2, 3, 3, 4, 4, 1, 0, 0}) {
            Due.is("2: what it was", x.thing(2, 11, v), was);
            Due.is("2: what it is", x.stretch(2, 11, 0), v);
            was = v;
        }
    }

    private static void promise2paintOfAge0() {
        BumpStreets x = new BumpStreets();
        x.thing(0, 0, 4);
        Due.is("2: age when laid", x.stretch(0, 0, 1), 0);
        x.days(21);
        Due.is("2: age after 21 days", x.stretch(0, 0, 1), 21);
        Due.is("2: paint on paint", x.thing(0, 0, 4), 4);
        Due.is("2: age anew", x.stretch(0, 0, 1), 0);
        x.days(5);
        x.thing(0, 0, 1);
        Due.is("2: paint after a bump", x.thing(0, 0, 4), 1);
        Due.is("2: age anew after a bump", x.stretch(0, 0, 1), 0);
        x.days(1);
        Due.is("2: age after a day", x.stretch(0, 0, 1), 1);
    }

    private static void promise3beyond() {
        Edge.range("3: street", Scenes::busy, 0, 2, (x, v) -> x.stretch(v, 4, 0));
        Edge.range("3: stretch", Scenes::busy, 0, 19, (x, v) -> x.stretch(1, v, 0));
        Edge.range("3: what", Scenes::busy, 0, 1, (x, v) -> x.stretch(1, 4, v));
        Edge.refused("3: all wrong is one finding", Scenes::busy, Due.BEYOND, x -> x.stretch(-1, -1, -1));
    }

    private static void promise3ageOnlyOfPaint() {
        BumpStreets x = new BumpStreets();
        for (int v = 0; v <= 4; v++) {
            x.thing(1, v, v);
        }
        x.days(7);
        for (int v = 0; v <= 4; v++) {
            Due.is("3: age of thing " + v, x.stretch(1, v, 1), v == 4 ? 7 : 0);
        }
        for (int v = 0; v <= 3; v++) {
            x.thing(1, 4, 4);
            x.days(2);
            x.thing(1, 4, v);
            Due.is("3: no age where paint was, under " + v, x.stretch(1, 4, 1), 0);
        }
    }

    /** AGE: held to 999. */
    private static void promise3ageIsHeld() {
        BumpStreets x = new BumpStreets();
        x.thing(2, 19, 4);
        Scenes.goTo(x, 1);
        x.thing(0, 0, 4);
        Scenes.goTo(x, 998);
        Due.is("3: age 998", x.stretch(2, 19, 1), 998);
        x.days(1);
        Due.is("3: age 999", x.stretch(2, 19, 1), 999);
        Due.is("3: age 998 of a later one", x.stretch(0, 0, 1), 998);
        x.days(1);
        Due.is("3: age held", x.stretch(2, 19, 1), 999);
        Due.is("3: age 999 of a later one", x.stretch(0, 0, 1), 999);
        x.days(100);
        Due.is("3: age held", x.stretch(2, 19, 1), 999);
        Due.is("3: age held of a later one", x.stretch(0, 0, 1), 999);
        Due.is("3: days go on", x.now(0), 1100);
        x.thing(2, 19, 4);
        x.days(1);
        Due.is("3: laid anew", x.stretch(2, 19, 1), 1);
    }

    private static void promise4beyond() {
        Edge.range("4: v", Scenes::busy, 1, 6, (x, v) -> x.high(v));
    }

    /** BUMPS are HIGH all alike: those that are there and those that come. */
    private static void promise4allAlike() {
        BumpStreets x = new BumpStreets();
        x.driver(0);
        x.set(0, 1, 60);
        x.thing(0, 2, 1);
        Due.is("4: at first", x.high(6), 3);
        x.thing(2, 2, 1);
        Due.is("4: one from before", x.quick(0, 0, 2), 60 - 48);
        Due.is("4: one from after", x.quick(0, 2, 2), 60 - 48);
        Due.is("4: what they were", x.high(1), 6);
        Due.is("4: one from before", x.quick(0, 0, 2), 52);
        Due.is("4: one from after", x.quick(0, 2, 2), 52);
        Due.is("4: the same again", x.high(1), 1);
    }

    private static void promise5beyond() {
        Edge.range("5: street", Scenes::busy, 0, 2, (x, v) -> x.street(v, 0));
        for (int street = 0; street < 3; street++) {
            int s = street;
            Edge.range("5: what", Scenes::busy, 0, 3, (x, v) -> x.street(s, v));
        }
        Edge.refused("5: all wrong is one finding", Scenes::busy, Due.BEYOND, x -> x.street(3, 4));
    }

    private static void promise5setOfStretches() {
        Edge.taken("5: an empty set", Scenes::empty, 0, x -> x.street(2, 0));
        Edge.taken("5: all twenty", Scenes::packed, (1 << 20) - 1, x -> x.street(2, 0));
        for (int i = 0; i < 20; i++) {
            int stretch = i;
            for (int v = 1; v <= 4; v++) {
                int thing = v;
                Edge.taken("5: one of the set", Scenes::empty, 1 << i, x -> {
                    x.thing(1, stretch, thing);
                    return x.street(1, 0);
                });
            }
        }
    }

    private static void promise5bumps() {
        BumpStreets x = new BumpStreets();
        Due.is("5: no bumps", x.street(0, 1), 0);
        for (int i = 0; i < 20; i++) {
            x.thing(0, i, 1);
            Due.is("5: bumps", x.street(0, 1), i + 1);
        }
        for (int v : new int[] {0, 2, 3, 4}) {
            x.thing(0, 19, v);
            Due.is("5: no bump " + v, x.street(0, 1), 19);
        }
        Due.is("5: bumps elsewhere", x.street(1, 1), 0);
        Due.is("5: bumps elsewhere", x.street(2, 1), 0);
    }

    private static void promise5setOfDrivers() {
        BumpStreets x = new BumpStreets();
        for (int d = 0; d < 8; d++) {
            Due.is("5: who goes there", x.street(0, 2), (1 << d) - 1);
            x.driver(d % 6);
        }
        Due.is("5: all eight", x.street(0, 2), 255);
        x.set(7, 2, 2);
        x.set(0, 2, 1);
        Due.is("5: without 7 and 0", x.street(0, 2), 126);
        Due.is("5: the first", x.street(1, 2), 1);
        Due.is("5: the last", x.street(2, 2), 128);
    }

    private static void promise5shakenThere() {
        BumpStreets x = new BumpStreets();
        x.thing(1, 0, 1);
        x.thing(1, 19, 1);
        x.thing(2, 0, 1);
        Due.is("5: shaken by nobody", x.street(1, 3), 0);
        x.driver(0);
        x.driver(5);
        x.driver(2);
        Due.is("5: shaken where nobody goes", x.street(1, 3), 0);
        Due.is("5: shaken where no bump is", x.street(0, 3), 0);
        x.set(1, 2, 1);
        // A racer at 21: 6 and 1 at each of the two.
        Due.is("5: shaken by one", x.street(1, 3), 14);
        x.set(0, 2, 1);
        // A driver at 16: 4 at each.
        Due.is("5: shaken by two", x.street(1, 3), 22);
        Due.is("5: shaken in another", x.street(2, 3), 0);
        BumpStreets y = new BumpStreets();
        y.thing(2, 0, 1);
        for (int d = 0; d < 8; d++) {
            y.driver(0);
            y.set(d, 2, 2);
            Due.is("5: shaken by " + (d + 1), y.street(2, 3), 4 * (d + 1));
        }
    }

    private static void promise6beyond() {
        Edge.range("6: what", Scenes::busy, 0, 3, (x, v) -> x.now(v));
    }

    private static void promise6ofNobody() {
        BumpStreets x = new BumpStreets();
        x.thing(0, 0, 1);
        Due.is("6: shaken by nobody", x.now(2), 0);
        Due.is("6: takes nobody", x.now(3), 0);
        Due.is("6: no finding", x.status(-1), 0);
    }

    private static void promise6ofAll() {
        BumpStreets x = new BumpStreets();
        for (int d = 0; d < 8; d++) {
            x.driver(0);
            x.set(d, 2, d % 3);
        }
        x.thing(0, 19, 1);
        x.thing(1, 19, 1);
        // Six of eight go over a bump at 16, the last of them number 7.
        Due.is("6: who", x.street(0, 2) + x.street(1, 2), 1 + 8 + 64 + 2 + 16 + 128);
        Due.is("6: shaken by all", x.now(2), 6 * 4);
        Due.is("6: takes all", x.now(3), 6 * (570 + 76) + 2 * 600);
    }
}
