/** Promises 20 to 26: what is best, by hand; ToldTest asks it of many towns. */
public final class BestTest {
    public static void main(String[] args) {
        tameByHand();
        clearByHand();
        lowerByHand();
        kindByHand();
        wishByHand();
        drivesByHand();
        slowestByHand();
        Due.end();
    }

    private static void tameByHand() {
        BumpStreets x = new BumpStreets();
        Due.is("tame BEYOND", x.tame(0, 0), Due.BEYOND);
        x.driver(1);
        Due.is("tame all alike", x.tame(0, 1), 0);
        for (int i = 0; i < 20; i++) {
            if (i != 3 && i != 13) {
                x.thing(1, i, 2);
            }
        }
        // In narrowings a bus is at 20, and at 26 on the two others.
        Due.is("tame one of two", x.tame(0, 1), 3);
        x.thing(1, 3, 2);
        Due.is("tame the only one", x.tame(0, 1), 13);
        x.thing(1, 13, 4);
        Due.is("tame NONE", x.tame(0, 1), Due.NONE);
        x.thing(1, 19, 0);
        x.thing(1, 0, 0);
        x.thing(1, 13, 2);
        Due.is("tame where it is quickest", x.tame(0, 1), 0);
        // A driver is at 40 on stretch 0, at 20 in narrowings and at 32 at the end.
        x.turn(0, 0);
        Due.is("tame the first stretch", x.tame(0, 1), 0);
        x.turn(0, 1);
        x.thing(1, 0, 1);
        x.thing(1, 5, 0);
        x.thing(1, 6, 0);
        // At 28 over the bump at 0 and at 32 on stretch 6: a bump there makes it 28.
        Due.is("tame not the least", x.tame(0, 1), 6);
        Due.is("no thing came", x.street(1, 1), 1);
        Due.is("tame BEYOND", x.tame(1, 0), Due.BEYOND);
        Due.is("tame BEYOND", x.tame(-1, 0), Due.BEYOND);
        Due.is("tame BEYOND", x.tame(0, 3), Due.BEYOND);
        Due.is("tame BEYOND", x.tame(0, -1), Due.BEYOND);
    }

    private static void clearByHand() {
        BumpStreets x = new BumpStreets();
        Due.is("clear NONE", x.clear(0, 0), Due.NONE);
        x.thing(0, 4, 2);
        Due.is("clear with nobody there", x.clear(0, 20), 4);
        x.driver(0);
        x.thing(0, 9, 1);
        x.thing(1, 0, 1);
        x.thing(1, 1, 1);
        x.thing(1, 2, 1);
        x.thing(2, 0, 1);
        x.thing(2, 1, 1);
        x.thing(2, 2, 1);
        Due.is("clear the bump", x.clear(0, 0), 9);
        Due.is("clear on a day", x.clear(0, 1), 9);
        // Cleared of a bump, street 1 is still left alone: nothing is helped.
        Due.is("clear the least of several", x.clear(1, 3), 0);
        Due.is("all stays", x.street(0, 0), 1 << 4 | 1 << 9);
        Due.is("clear BEYOND", x.clear(3, 0), Due.BEYOND);
        Due.is("clear BEYOND", x.clear(-1, 0), Due.BEYOND);
        Due.is("clear BEYOND", x.clear(0, 21), Due.BEYOND);
        Due.is("clear BEYOND", x.clear(0, -1), Due.BEYOND);
    }

    private static void lowerByHand() {
        BumpStreets x = new BumpStreets();
        Due.is("lower with nobody there", x.lower(0, 0), 6);
        x.driver(1);
        for (int street = 0; street < 3; street++) {
            x.thing(street, 0, 1);
        }
        // A bus shakes 4 (36 by 1), 8, 11, 13, 15, 15 (16 by 6).
        Due.is("lower", x.lower(0, 15), 6);
        Due.is("lower", x.lower(20, 14), 4);
        Due.is("lower", x.lower(1, 11), 3);
        Due.is("lower", x.lower(0, 10), 2);
        Due.is("lower", x.lower(0, 4), 1);
        Due.is("lower NONE", x.lower(0, 3), Due.NONE);
        Due.is("lower", x.lower(0, 99999), 6);
        x.turn(0, 0);
        // A driver shakes 3, 4, 4, 3, 2, 3: so 5 and 6 may be where 3 may not.
        x.set(0, 1, 45);
        Due.is("lower above a gap", x.lower(0, 3), 6);
        Due.is("lower above a gap", x.lower(0, 2), 5);
        Due.is("high stays", x.now(1), 3);
        Due.is("lower BEYOND", x.lower(-1, 0), Due.BEYOND);
        Due.is("lower BEYOND", x.lower(21, 0), Due.BEYOND);
        Due.is("lower BEYOND", x.lower(0, -1), Due.BEYOND);
        Due.is("lower BEYOND", x.lower(0, 100000), Due.BEYOND);
    }

    private static void kindByHand() {
        BumpStreets x = new BumpStreets();
        x.driver(2);
        Due.is("kind of several", x.kind(0, 0), 0);
        x.thing(0, 0, 1);
        Due.is("kind over a bump", x.kind(0, 0), 4);
        x.thing(1, 0, 3);
        Due.is("kind at a sign", x.kind(0, 1), 3);
        x.thing(1, 5, 2);
        Due.is("kind at a narrowing", x.kind(0, 1), 4);
        Due.is("the kind stays", x.of(0, 0), 2);
        Due.is("kind BEYOND", x.kind(1, 0), Due.BEYOND);
        Due.is("kind BEYOND", x.kind(-1, 0), Due.BEYOND);
        Due.is("kind BEYOND", x.kind(0, 3), Due.BEYOND);
        Due.is("kind BEYOND", x.kind(0, -1), Due.BEYOND);
    }

    private static void wishByHand() {
        BumpStreets x = new BumpStreets();
        x.driver(0);
        // 20 times 122 at 10, 111 at 11, 15 at 80.
        Due.is("wish", x.wish(0, 0, 9999), 10);
        Due.is("wish", x.wish(0, 0, 2440), 10);
        Due.is("wish", x.wish(0, 0, 2439), 11);
        Due.is("wish", x.wish(0, 0, 300), 77);
        Due.is("wish NONE", x.wish(0, 0, 299), Due.NONE);
        Due.is("wish NONE", x.wish(0, 0, 0), Due.NONE);
        x.high(1);
        x.thing(0, 0, 1);
        // Below 18 it goes at less than 10 over the bump; at 13 it takes 245 and 19 times 94, at 14 204 and 19 times 87.
        Due.is("wish that shakes nothing", x.wish(0, 0, 2031), 13);
        Due.is("wish that shakes nothing", x.wish(0, 0, 2030), 14);
        x.turn(0, 2);
        x.high(4);
        // At 8 over it whatever it wishes: 153, 87, 61, 47, 38 and, at 36, 15 times 34.
        Due.is("wish of those alike", x.wish(0, 0, 896), 36);
        Due.is("wish of those alike", x.wish(0, 0, 895), 37);
        Due.is("wish stays", x.of(0, 1), 40);
        Due.is("wish BEYOND", x.wish(1, 0, 0), Due.BEYOND);
        Due.is("wish BEYOND", x.wish(-1, 0, 0), Due.BEYOND);
        Due.is("wish BEYOND", x.wish(0, 3, 0), Due.BEYOND);
        Due.is("wish BEYOND", x.wish(0, -1, 0), Due.BEYOND);
        Due.is("wish BEYOND", x.wish(0, 0, -1), Due.BEYOND);
        Due.is("wish BEYOND", x.wish(0, 0, 10000), Due.BEYOND);
    }

    private static void drivesByHand() {
        BumpStreets x = new BumpStreets();
        Due.is("drives nobody", x.drives(19), 0);
        x.driver(0);
        x.driver(0);
        x.driver(0);
        x.set(1, 2, 2);
        x.set(2, 2, 2);
        Due.is("drives two", x.drives(0), 2);
        x.set(2, 2, 0);
        Due.is("drives two", x.drives(7), 0);
        x.set(2, 2, 1);
        Due.is("drives one each", x.drives(7), 0);
        x.thing(0, 7, 2);
        x.thing(1, 7, 2);
        x.thing(2, 7, 1);
        // A bump in place of a narrowing; those in 2 leave whatever comes, unless 0 and 1 are worse.
        Due.is("drives", x.drives(7), 0);
        Due.is("all stays", x.stretch(0, 7, 0) * 100 + x.stretch(1, 7, 0) * 10 + x.stretch(2, 7, 0), 221);
        // Paint that ends in two days calls nobody in one; on the day it ends one leaves whatever comes.
        BumpStreets y = new BumpStreets();
        y.thing(1, 0, 4);
        y.days(19);
        y.driver(0);
        y.set(0, 2, 2);
        y.thing(2, 0, 3);
        y.thing(0, 0, 1);
        Due.is("leaves in two days", y.leaves(0), 2);
        Due.is("drives out of 2 alone", y.drives(5), 2);
        y.days(1);
        Due.is("drives out of 2 anyhow", y.drives(5), 0);
        Due.is("drives BEYOND", x.drives(20), Due.BEYOND);
        Due.is("drives BEYOND", x.drives(-1), Due.BEYOND);
    }

    private static void slowestByHand() {
        BumpStreets x = new BumpStreets();
        Due.is("slowest NONE", x.slowest(), Due.NONE);
        x.driver(0);
        x.driver(3);
        Due.is("slowest of several", x.slowest(), 0);
        x.turn(0, 3);
        x.turn(1, 0);
        Due.is("slowest of several", x.slowest(), 0);
        x.thing(2, 3, 3);
        Due.is("slowest in another street", x.slowest(), 1);
        x.driver(0);
        x.set(2, 1, 39);
        Due.is("slowest by wish", x.slowest(), 2);
    }
}
