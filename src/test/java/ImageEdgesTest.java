/** The boundaries that promises 36 to 40, and the findings, name. */
public final class ImageEdgesTest {
    public static void main(String[] args) {
        promise36one();
        promise36allOfSection1();
        promise36ofEight();
        promise36ofAllStretches();
        promise36notTheRest();
        promise37none();
        promise37howManyDrivers();
        promise37theLatest();
        promise37whichStays();
        promise37dayGoesBack();
        promise38tear();
        promise39beyond();
        promise39empty();
        promise39most();
        promise40beyond();
        promise40eachFinding();
        promise40inLongsToo();
        promise40undoTakesNoneBack();
        promise40noFindingIsNotCounted();
        Due.end();
    }

    private static void promise36one() {
        Edge.onlyTold("36: one", () -> {
            BumpStreets x = new BumpStreets();
            x.image();
            return x;
        }, 1, x -> x.image());
        Edge.taken("36: of an empty town", Scenes::empty, 1, x -> x.image());
        Edge.taken("36: in place of another", Scenes::crowded, 1, x -> x.image());
    }

    /** DAY, THINGS, HIGH, AGES, KINDS, WISHES, STREETS: each by itself comes back. */
    private static void promise36allOfSection1() {
        back("day", x -> x.days(1));
        back("a thing", x -> x.thing(2, 19, 1));
        back("nothing", x -> x.thing(0, 3, 0));
        back("high", x -> x.high(6));
        back("an age", x -> x.thing(1, 4, 4));
        back("a kind", x -> x.turn(2, 5));
        back("a wish", x -> x.set(2, 1, 10));
        back("a street", x -> x.set(2, 2, 0));
        back("drivers", x -> x.driver(0));
        back("a text's items", x -> Scenes.tell(x, "bus;high 1;clear 0 3;paint 1 4;bump 2 19"));
        back("what a sheet lays", x -> x.lays(0, 2));
        back("all", x -> {
            x.driver(3);
            x.driver(4);
            x.high(2);
            x.thing(0, 0, 2);
            return x.days(100);
        });
    }

    /** Of the last of eight as well as of the first. */
    private static void promise36ofEight() {
        for (int d = 0; d < 8; d++) {
            BumpStreets x = Scenes.crowded();
            x.turn(d, 2);
            x.set(d, 1, 31);
            x.set(d, 2, 1);
            x.image();
            x.turn(d, 5);
            x.set(d, 1, 71);
            x.set(d, 2, 2);
            x.undo();
            Due.is("36: kind of " + d, x.of(d, 0), 2);
            Due.is("36: wish of " + d, x.of(d, 1), 31);
            Due.is("36: street of " + d, x.of(d, 2), 1);
        }
    }

    /** Of the last stretch of the last street as well as of the first. */
    private static void promise36ofAllStretches() {
        for (int place = 0; place < 60; place++) {
            int street = place / 20;
            int stretch = place % 20;
            BumpStreets x = new BumpStreets();
            x.thing(street, stretch, 4);
            x.days(3);
            x.image();
            x.thing(street, stretch, 1);
            x.undo();
            Due.is("36: thing on " + place, x.stretch(street, stretch, 0), 4);
            Due.is("36: age on " + place, x.stretch(street, stretch, 1), 3);
        }
    }

    private interface Change {
        int make(BumpStreets x);
    }

    private static void back(String what, Change change) {
        BumpStreets x = kept();
        int drivers = x.count(0);
        String before = Due.picture(x);
        x = kept();
        change.make(x);
        Due.is("36: " + what + " changes", Due.picture(x).equals(before) ? 1 : 0, 0);
        x = kept();
        change.make(x);
        Due.is("37: undo of " + what, x.undo(), drivers);
        Due.is("36: " + what + " is kept", Due.picture(x).equals(before) ? 1 : 0, 1);
    }

    private static BumpStreets kept() {
        BumpStreets x = Scenes.busy();
        x.wipe();
        x.sheet(0, 8, 20);
        x.image();
        return x;
    }

    /** THE TAPE not, nor the sheets of section 3, nor status(). */
    private static void promise36notTheRest() {
        BumpStreets x = Scenes.busy();
        int bytes = x.count(1);
        x.image();
        x.feed(0x3b627573, 4);
        x.write(0, 0, 99);
        x.sheet(1, 0, 0);
        x.sheet(3, 64, 2);
        x.high(0);
        int findings = x.status(-1);
        x.undo();
        Due.is("36: the tape stays", x.count(1), bytes + 4);
        Due.is("36: a number stays", x.write(0, 0, 1), 99);
        Due.is("36: a sheet stays", x.write(3, 1, 1), 0);
        Due.is("36: findings stay", x.status(-1), findings);
        Due.is("36: a missing one stays missing", x.write(1, 0, 1), Due.MISSING);
        Due.is("36: the tape's text stays", x.town(), 4);
        x.image();
        x.feed(0x20202020, 4);
        x.wipe();
        x.undo();
        Due.is("36: an empty tape stays empty", x.count(1), 0);
    }

    private static void promise37none() {
        Edge.refused("37: nothing is kept", Scenes::empty, Due.NONE, x -> x.undo());
        Edge.refused("37: nothing is kept any more", () -> {
            BumpStreets x = Scenes.crowded();
            x.tear();
            return x;
        }, Due.NONE, x -> x.undo());
    }

    private static void promise37howManyDrivers() {
        for (int many = 0; many <= 8; many++) {
            BumpStreets x = new BumpStreets();
            for (int d = 0; d < many; d++) {
                x.driver(0);
            }
            x.image();
            if (many < 8) {
                x.driver(5);
            }
            Due.is("37: how many drivers", x.undo(), many);
            Due.is("37: how many drivers", x.count(0), many);
            Due.is("37: no such one", x.of(many, 0), Due.BEYOND);
        }
        // From fewer to more, too.
        BumpStreets x = Scenes.one();
        x.image();
        x.driver(2);
        x.image();
        x.tear();
        Due.is("37: torn", x.undo(), Due.NONE);
        Due.is("37: both are there", x.count(0), 2);
    }

    private static void promise37theLatest() {
        BumpStreets x = new BumpStreets();
        x.high(1);
        x.image();
        x.high(2);
        x.image();
        x.high(6);
        x.undo();
        Due.is("37: the latest", x.now(1), 2);
        x.undo();
        Due.is("37: none before it", x.now(1), 2);
    }

    private static void promise37whichStays() {
        BumpStreets x = Scenes.one();
        x.thing(0, 0, 4);
        x.image();
        for (int i = 0; i < 3; i++) {
            x.driver(1);
            x.days(5);
            x.thing(0, 0, 1);
            x.set(0, 1, 77);
            x.set(0, 2, 2);
            x.turn(0, 4);
            x.high(5);
            Due.is("37: it stays", x.undo(), 1);
            Due.is("37: day", x.now(0), 0);
            Due.is("37: paint", x.stretch(0, 0, 0) * 100 + x.stretch(0, 0, 1), 400);
            Due.is("37: driver", x.of(0, 0) * 1000 + x.of(0, 1) * 10 + x.of(0, 2), 400);
            Due.is("37: high", x.now(1), 3);
        }
        // What is tried out with ON, or told in a faulty text, leaves it alone.
        x.then(100, 0);
        x.lower(20, 0);
        x.clear(0, 20);
        x.drives(3);
        x.tame(0, 1);
        Scenes.tell(x, "racer;high 6;paint 0 0;bump 0 1;car");
        Due.is("37: it stays", x.undo(), 1);
        Due.is("37: high", x.now(1), 3);
        Due.is("37: things", x.street(0, 0), 1);
    }

    /** At the last DAY no more days go, but from what is kept they do. */
    private static void promise37dayGoesBack() {
        BumpStreets x = Scenes.atDay(9990);
        x.image();
        Due.is("37: to the last day", x.days(9), 0);
        Due.is("37: no more", x.days(1), Due.STATE);
        x.undo();
        Due.is("37: back", x.now(0), 9990);
        Due.is("37: not that many", x.days(10), Due.STATE);
        Due.is("37: to the last day again", x.days(9), 0);
        Due.is("37: the last day", x.now(0), 9999);
    }

    private static void promise38tear() {
        Edge.taken("38: nothing was kept", Scenes::empty, 0, x -> x.tear());
        Edge.taken("38: something was", Scenes::busy, 1, x -> x.tear());
        Edge.taken("38: only once", Scenes::busy, 0, x -> {
            x.tear();
            return x.tear();
        });
        Edge.taken("38: two images are one", Scenes::busy, 0, x -> {
            x.image();
            x.tear();
            return x.tear();
        });
        Edge.taken("38: kept anew", Scenes::busy, 1, x -> {
            x.tear();
            x.image();
            return x.tear();
        });
        Edge.taken("38: undo takes it not", Scenes::busy, 1, x -> {
            x.undo();
            return x.tear();
        });
        BumpStreets x = Scenes.busy();
        x.tear();
        Due.is("38: all else stays", Due.picture(x).equals(Due.picture(Scenes.busy())) ? 1 : 0, 1);
    }

    private static void promise39beyond() {
        Edge.range("39: what", Scenes::busy, 0, 3, (x, v) -> x.count(v));
        Edge.range("39: what", Scenes::empty, 0, 3, (x, v) -> x.count(v));
    }

    private static void promise39empty() {
        for (int what = 0; what < 4; what++) {
            int w = what;
            Edge.onlyTold("39: nothing of " + what, Scenes::empty, 0, x -> x.count(w));
        }
    }

    private static void promise39most() {
        BumpStreets x = new BumpStreets();
        x.sheet(0, 8, 20);
        for (int i = 0; i < 20; i++) {
            x.write(0, i, 1);
        }
        for (int street = 0; street < 3; street++) {
            x.lays(0, street);
            Due.is("39: bumps", x.count(2), 20 * (street + 1));
        }
        for (int d = 0; d < 8; d++) {
            x.driver(0);
            x.set(d, 1, 80);
            Due.is("39: wishes", x.count(3), 80 * (d + 1));
            Due.is("39: drivers", x.count(0), d + 1);
        }
        x.set(7, 1, 10);
        Due.is("39: wishes", x.count(3), 570);
        x.thing(2, 19, 4);
        Due.is("39: a bump less", x.count(2), 59);
        for (int i = 1; i <= 30; i++) {
            x.feed(0, 4);
            Due.is("39: bytes", x.count(1), 4 * i);
        }
        x.feed(0, 1);
        Due.is("39: no more bytes", x.count(1), 120);
    }

    /** BEYOND (counted from then on): another one. */
    private static void promise40beyond() {
        Edge.range("40: which", Scenes::busy, -1, 6, (x, v) -> x.status(v));
        BumpStreets x = new BumpStreets();
        Due.is("40: not yet counted", x.status(0), 0);
        Due.is("40: another one", x.status(7), Due.BEYOND);
        Due.is("40: counted", x.status(0), 1);
        Due.is("40: another one", x.status(-2), Due.BEYOND);
        Due.is("40: counted", x.status(0), 2);
        Due.is("40: counted in all", x.status(-1), 2);
        Due.is("40: no other", x.status(6), 0);
    }

    /** Each finding by its number, and counted as which. */
    private static void promise40eachFinding() {
        BumpStreets x = Scenes.atDay(9999);
        for (int d = 0; d < 8; d++) {
            x.driver(0);
        }
        long[] got = {x.high(0), x.driver(0), x.as(0, 1), x.undo(), x.days(1), x.write(0, 0, 0), x.sheet(0, 8, -1)};
        for (int which = 0; which < 7; which++) {
            Due.is("40: finding " + which, got[which], -1000000001L - which);
            Due.is("40: counted", x.status(which), 1);
        }
        Due.is("40: all", x.status(-1), 7);
        for (int i = 0; i < 5; i++) {
            x.days(1);
        }
        Due.is("40: more of one", x.status(4), 6);
        Due.is("40: all", x.status(-1), 12);
    }

    /** In longs, too: and what stood on a sheet is no finding, whatever it looks like. */
    private static void promise40inLongsToo() {
        Edge.refused("40: no such sheet", Scenes::busy, -1000000001L, x -> x.write(4, 0, 1));
        Edge.refused("40: missing", Scenes::busy, -1000000006L, x -> x.write(3, 0, 1));
        Edge.refused("40: no such number", Scenes::busy, -1000000001L, x -> x.write(2, 21, 1));
        BumpStreets x = Scenes.busy();
        x.write(2, 20, -1000000001L);
        int before = x.status(-1);
        Due.is("40: what stood there", x.write(2, 20, -1000000006L), -1000000001L);
        Due.is("40: what stood there", x.write(2, 20, 0), -1000000006L);
        Due.is("40: no finding", x.status(-1), before);
    }

    private static void promise40undoTakesNoneBack() {
        BumpStreets x = new BumpStreets();
        x.high(0);
        x.image();
        x.high(7);
        x.as(0, 0);
        x.slowest();
        x.undo();
        Due.is("40: all", x.status(-1), 4);
        Due.is("40: BEYOND", x.status(0), 3);
        Due.is("40: NONE", x.status(3), 1);
        x.tear();
        Due.is("40: nor does tear", x.status(-1), 4);
        x.undo();
        Due.is("40: nothing to undo", x.status(3), 2);
    }

    private static void promise40noFindingIsNotCounted() {
        BumpStreets x = new BumpStreets();
        for (int which = -1; which <= 6; which++) {
            Due.is("40: asking is no finding", x.status(which), 0);
        }
        x.town();
        x.wipe();
        x.tear();
        x.lower(0, 0);
        x.drives(0);
        Due.is("40: nor is a fault", x.status(-1), 0);
    }
}
