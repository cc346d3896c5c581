/** Promises 16 to 19: the days. */
public final class DaysTest {
    public static void main(String[] args) {
        daysGo();
        choices();
        ages();
        lastDay();
        onAndThen();
        leaves();
        Due.end();
    }

    private static void daysGo() {
        BumpStreets x = new BumpStreets();
        Due.is("days", x.days(1), 0);
        Due.is("days", x.days(100), 0);
        Due.is("day", x.now(0), 101);
        Due.is("days BEYOND", x.days(0), Due.BEYOND);
        Due.is("days BEYOND", x.days(101), Due.BEYOND);
        Due.is("days BEYOND", x.days(-1), Due.BEYOND);
        Due.is("days BEYOND", x.days(Integer.MAX_VALUE), Due.BEYOND);
        Due.is("day", x.now(0), 101);
        x.driver(0);
        for (int street = 0; street < 3; street++) {
            x.thing(street, 2, 1);
        }
        Due.is("shaken then", x.days(2), 4);
    }

    private static void choices() {
        BumpStreets x = new BumpStreets();
        x.driver(0);
        x.driver(3);
        x.driver(0);
        x.set(2, 2, 2);
        x.thing(0, 0, 3);
        x.days(1);
        Due.is("the least of several", x.of(0, 2), 1);
        Due.is("a local doesn't mind a sign", x.of(1, 2), 0);
        Due.is("its own of several", x.of(2, 2), 2);
        x.thing(1, 0, 1);
        x.days(1);
        Due.is("the only one that is least", x.of(0, 2), 2);
        x.thing(2, 0, 1);
        x.thing(0, 0, 1);
        x.days(1);
        Due.is("its own of three", x.of(0, 2), 2);
        x.thing(0, 0, 0);
        x.days(1);
        Due.is("back to 0", x.street(0, 2), 7);
    }

    private static void ages() {
        BumpStreets x = new BumpStreets();
        x.driver(0);
        x.thing(0, 5, 4);
        x.thing(1, 5, 1);
        x.thing(2, 5, 1);
        for (int n = 1; n <= 12; n++) {
            x.days(100);
            Due.is("age held to 999", x.stretch(0, 5, 1), Math.min(999, 100 * n));
        }
        Due.is("paint laid anew", x.thing(0, 5, 4), 4);
        Due.is("before 21 days", x.quick(0, 0, 5), 30);
        x.days(20);
        Due.is("after 20 days", x.quick(0, 0, 5), 30);
        x.days(1);
        Due.is("after 21 days", x.quick(0, 0, 5), 40);
    }

    private static void lastDay() {
        BumpStreets x = new BumpStreets();
        x.driver(0);
        for (int i = 0; i < 99; i++) {
            x.days(100);
        }
        Due.is("STATE", x.days(100), Due.STATE);
        Due.is("BEYOND before STATE", x.days(101), Due.BEYOND);
        Due.is("to 9999", x.days(99), 0);
        Due.is("day", x.now(0), 9999);
        Due.is("STATE", x.days(1), Due.STATE);
        Due.is("status STATE", x.status(4), 2);
        Due.is("BEYOND", x.days(0), Due.BEYOND);
        x.thing(0, 0, 1);
        Due.is("on at the last day", x.on(0, 100), 1);
        Due.is("then at the last day", x.then(1, 0), 0);
        Due.is("day", x.now(0), 9999);
    }

    private static void onAndThen() {
        BumpStreets x = new BumpStreets();
        x.driver(0);
        x.driver(1);
        x.thing(0, 0, 4);
        x.thing(1, 0, 1);
        x.thing(2, 0, 1);
        x.thing(2, 1, 2);
        x.set(0, 2, 1);
        x.set(1, 2, 2);
        String before = Due.picture(x);
        Due.is("on 0", x.on(0, 0), 1);
        Due.is("on 1", x.on(0, 1), 0);
        Due.is("on 0", x.on(1, 0), 2);
        Due.is("then 0 shaken", x.then(0, 0), x.now(2));
        Due.is("then 0 takes", x.then(0, 1), x.now(3));
        Due.is("then 1 shaken", x.then(1, 0), 0);
        // Paint: 1227 by 30 is 40; from 30 a driver and a bus are at 40 or at 36, 40.
        Due.is("then 1 takes", x.then(1, 1), (40 + 570) + (40 + 34 + 540));
        Due.is("then 20 takes", x.then(20, 1), (40 + 570) + (40 + 34 + 540));
        Due.is("then 21 takes", x.then(21, 1), 1200);
        Due.is("nothing changes", Due.picture(x).equals(before) ? 1 : 0, 1);
        Due.is("on BEYOND", x.on(2, 0), Due.BEYOND);
        Due.is("on BEYOND", x.on(-1, 0), Due.BEYOND);
        Due.is("on BEYOND", x.on(0, -1), Due.BEYOND);
        Due.is("on BEYOND", x.on(0, 101), Due.BEYOND);
        Due.is("on 100", x.on(0, 100), 0);
        Due.is("then BEYOND", x.then(-1, 0), Due.BEYOND);
        Due.is("then BEYOND", x.then(101, 0), Due.BEYOND);
        Due.is("then BEYOND", x.then(0, -1), Due.BEYOND);
        Due.is("then BEYOND", x.then(0, 2), Due.BEYOND);
        Due.is("then 100", x.then(100, 0), 0);
    }

    private static void leaves() {
        BumpStreets x = new BumpStreets();
        x.driver(0);
        Due.is("leaves NONE", x.leaves(0), Due.NONE);
        x.thing(0, 3, 3);
        Due.is("leaves at once", x.leaves(0), 1);
        // Paint elsewhere stops working after 21 days, so it leaves for that street then.
        x.thing(1, 3, 4);
        x.thing(2, 3, 1);
        Due.is("leaves when paint ends", x.leaves(0), 21);
        x.days(6);
        Due.is("leaves when paint ends", x.leaves(0), 15);
        Due.is("still there", x.of(0, 2), 0);
        x.thing(1, 3, 4);
        x.days(20);
        Due.is("leaves tomorrow", x.leaves(0), 1);
        x.days(1);
        Due.is("has left", x.of(0, 2), 1);
        Due.is("leaves NONE", x.leaves(0), Due.NONE);
        Due.is("leaves BEYOND", x.leaves(1), Due.BEYOND);
        Due.is("leaves BEYOND", x.leaves(-1), Due.BEYOND);
        Due.is("status NONE", x.status(3), 2);
    }
}
