/** Promises 1 to 6: a new object, and the streets. */
public final class StreetsTest {
    public static void main(String[] args) {
        newObject();
        things();
        stretches();
        highs();
        streets();
        now();
        Due.end();
    }

    private static void newObject() {
        BumpStreets x = new BumpStreets();
        for (int street = 0; street < 3; street++) {
            for (int i = 0; i < 20; i++) {
                Due.is("new stretch thing", x.stretch(street, i, 0), 0);
                Due.is("new stretch age", x.stretch(street, i, 1), 0);
            }
            Due.is("new street 0", x.street(street, 0), 0);
        }
        Due.is("new count(0)", x.count(0), 0);
        Due.is("new count(1)", x.count(1), 0);
        Due.is("new count(2)", x.count(2), 0);
        Due.is("new count(3)", x.count(3), 0);
        Due.is("new now(0)", x.now(0), 0);
        Due.is("new now(1)", x.now(1), 3);
        Due.is("new tear()", x.tear(), 0);
        Due.is("new wipe()", x.wipe(), 0);
        Due.is("new status(-1)", x.status(-1), 0);
        Due.is("new undo()", x.undo(), Due.NONE);
        for (int s = 0; s < 4; s++) {
            Due.is("new write", x.write(s, 0, 1), Due.MISSING);
        }
    }

    private static void things() {
        BumpStreets x = new BumpStreets();
        Due.is("thing", x.thing(0, 0, 4), 0);
        Due.is("thing", x.thing(2, 19, 1), 0);
        Due.is("thing", x.thing(2, 19, 2), 1);
        Due.is("thing", x.thing(2, 19, 3), 2);
        Due.is("thing", x.thing(2, 19, 0), 3);
        Due.is("others stay", x.stretch(1, 19, 0), 0);
        Due.is("others stay", x.stretch(0, 0, 0), 4);
        x.days(5);
        Due.is("age", x.stretch(0, 0, 1), 5);
        Due.is("paint anew", x.thing(0, 0, 4), 4);
        Due.is("age anew", x.stretch(0, 0, 1), 0);
        Due.is("thing BEYOND", x.thing(-1, 0, 0), Due.BEYOND);
        Due.is("thing BEYOND", x.thing(3, 0, 0), Due.BEYOND);
        Due.is("thing BEYOND", x.thing(0, -1, 0), Due.BEYOND);
        Due.is("thing BEYOND", x.thing(0, 20, 0), Due.BEYOND);
        Due.is("thing BEYOND", x.thing(0, 0, -1), Due.BEYOND);
        Due.is("thing BEYOND", x.thing(0, 0, 5), Due.BEYOND);
        Due.is("thing unchanged", x.stretch(0, 0, 0), 4);
        Due.is("status", x.status(0), 6);
    }

    private static void stretches() {
        BumpStreets x = new BumpStreets();
        x.thing(1, 7, 4);
        x.thing(1, 8, 1);
        x.days(3);
        Due.is("stretch paint", x.stretch(1, 7, 0), 4);
        Due.is("stretch paint age", x.stretch(1, 7, 1), 3);
        Due.is("stretch bump", x.stretch(1, 8, 0), 1);
        Due.is("stretch bump age", x.stretch(1, 8, 1), 0);
        x.thing(1, 7, 2);
        Due.is("age gone with the paint", x.stretch(1, 7, 1), 0);
        x.days(1);
        Due.is("a narrowing has no age", x.stretch(1, 7, 1), 0);
        Due.is("stretch BEYOND", x.stretch(-1, 0, 0), Due.BEYOND);
        Due.is("stretch BEYOND", x.stretch(3, 0, 0), Due.BEYOND);
        Due.is("stretch BEYOND", x.stretch(0, -1, 0), Due.BEYOND);
        Due.is("stretch BEYOND", x.stretch(0, 20, 0), Due.BEYOND);
        Due.is("stretch BEYOND", x.stretch(0, 0, -1), Due.BEYOND);
        Due.is("stretch BEYOND", x.stretch(0, 0, 2), Due.BEYOND);
    }

    private static void highs() {
        BumpStreets x = new BumpStreets();
        Due.is("high", x.high(6), 3);
        Due.is("high", x.high(1), 6);
        Due.is("high BEYOND", x.high(0), Due.BEYOND);
        Due.is("high BEYOND", x.high(7), Due.BEYOND);
        Due.is("high BEYOND", x.high(Integer.MIN_VALUE), Due.BEYOND);
        Due.is("now high", x.now(1), 1);
    }

    private static void streets() {
        BumpStreets x = new BumpStreets();
        x.thing(1, 0, 1);
        x.thing(1, 3, 2);
        x.thing(1, 19, 1);
        x.thing(0, 4, 1);
        x.driver(0);
        x.driver(1);
        x.driver(2);
        x.set(1, 2, 1);
        x.set(2, 2, 1);
        Due.is("street set", x.street(1, 0), 1 | 1 << 3 | 1 << 19);
        Due.is("street bumps", x.street(1, 1), 2);
        Due.is("street who", x.street(1, 2), 6);
        Due.is("street who", x.street(0, 2), 1);
        Due.is("street who", x.street(2, 2), 0);
        // Bus: 28 over both, 8 and 3 each; lorry: 16 over both, twice 4 each.
        Due.is("street shaken", x.street(1, 3), 22 + 16);
        Due.is("street shaken", x.street(0, 3), 4);
        Due.is("street shaken", x.street(2, 3), 0);
        Due.is("street BEYOND", x.street(-1, 0), Due.BEYOND);
        Due.is("street BEYOND", x.street(3, 0), Due.BEYOND);
        Due.is("street BEYOND", x.street(0, -1), Due.BEYOND);
        Due.is("street BEYOND", x.street(0, 4), Due.BEYOND);
    }

    private static void now() {
        BumpStreets x = new BumpStreets();
        x.thing(0, 19, 1);
        x.driver(0);
        x.driver(0);
        x.set(1, 2, 2);
        Due.is("now day", x.now(0), 0);
        Due.is("now high", x.now(1), 3);
        Due.is("now shaken", x.now(2), 4);
        // 1227 by 16 is 76, by 40 is 30.
        Due.is("now takes", x.now(3), 19 * 30 + 76 + 20 * 30);
        x.days(7);
        Due.is("now day", x.now(0), 7);
        Due.is("now shaken", x.now(2), 0);
        Due.is("now BEYOND", x.now(-1), Due.BEYOND);
        Due.is("now BEYOND", x.now(4), Due.BEYOND);
    }
}
