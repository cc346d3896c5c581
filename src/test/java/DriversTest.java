/** Promises 7 to 15: the drivers. */
public final class DriversTest {
    public static void main(String[] args) {
        drivers();
        ofOne();
        sets();
        turns();
        asKinds();
        slows();
        slowsAtLeast();
        quick();
        takesAndShaken();
        Due.end();
    }

    private static BumpStreets oneOfEach() {
        BumpStreets x = new BumpStreets();
        for (int kind = 0; kind < 6; kind++) {
            x.driver(kind);
        }
        return x;
    }

    private static void drivers() {
        BumpStreets x = new BumpStreets();
        for (int i = 0; i < 8; i++) {
            Due.is("driver", x.driver(5 - i % 6), i);
        }
        Due.is("driver BEYOND first", x.driver(6), Due.BEYOND);
        Due.is("driver BEYOND first", x.driver(-1), Due.BEYOND);
        Due.is("driver FULL", x.driver(0), Due.FULL);
        Due.is("drivers", x.count(0), 8);
        Due.is("of kind", x.of(0, 0), 5);
        Due.is("of wish", x.of(7, 1), 40);
        Due.is("of street", x.of(7, 2), 0);
    }

    private static void ofOne() {
        BumpStreets x = oneOfEach();
        int[] hurries = {12, 6, 6, 12, 12, 22};
        x.thing(2, 19, 1);
        for (int d = 0; d < 6; d++) {
            Due.is("of kind", x.of(d, 0), d);
            Due.is("of hurries", x.of(d, 3), hurries[d]);
            Due.is("of takes", x.of(d, 4), 600);
            Due.is("of shaken", x.of(d, 5), 0);
        }
        x.set(1, 2, 2);
        Due.is("of street", x.of(1, 2), 2);
        Due.is("of takes there", x.of(1, 4), 19 * 30 + 43);
        Due.is("of shaken there", x.of(1, 5), 11);
        Due.is("of BEYOND", x.of(-1, 0), Due.BEYOND);
        Due.is("of BEYOND", x.of(6, 0), Due.BEYOND);
        Due.is("of BEYOND", x.of(0, -1), Due.BEYOND);
        Due.is("of BEYOND", x.of(0, 6), Due.BEYOND);
        Due.is("of BEYOND", x.of(Integer.MAX_VALUE, 0), Due.BEYOND);
    }

    private static void sets() {
        BumpStreets x = oneOfEach();
        Due.is("set wish", x.set(3, 1, 10), 40);
        Due.is("set wish", x.set(3, 1, 80), 10);
        Due.is("set street", x.set(3, 2, 2), 0);
        Due.is("set street", x.set(3, 2, 0), 2);
        Due.is("set street", x.set(3, 2, 1), 0);
        Due.is("set BEYOND", x.set(3, 1, 9), Due.BEYOND);
        Due.is("set BEYOND", x.set(3, 1, 81), Due.BEYOND);
        Due.is("set BEYOND", x.set(3, 2, -1), Due.BEYOND);
        Due.is("set BEYOND", x.set(3, 2, 3), Due.BEYOND);
        Due.is("set BEYOND", x.set(3, 0, 1), Due.BEYOND);
        Due.is("set BEYOND", x.set(3, 3, 10), Due.BEYOND);
        Due.is("set BEYOND", x.set(6, 1, 10), Due.BEYOND);
        Due.is("set BEYOND", x.set(-1, 2, 1), Due.BEYOND);
        Due.is("wish stays", x.of(3, 1), 80);
        Due.is("street stays", x.of(3, 2), 1);
        Due.is("another's wish stays", x.of(2, 1), 40);
    }

    private static void turns() {
        BumpStreets x = oneOfEach();
        x.set(0, 1, 33);
        x.set(0, 2, 1);
        Due.is("turn", x.turn(0, 5), 0);
        Due.is("turn", x.turn(0, 5), 5);
        Due.is("turn kind", x.of(0, 0), 5);
        Due.is("turn wish stays", x.of(0, 1), 33);
        Due.is("turn street stays", x.of(0, 2), 1);
        Due.is("turn BEYOND", x.turn(0, 6), Due.BEYOND);
        Due.is("turn BEYOND", x.turn(0, -1), Due.BEYOND);
        Due.is("turn BEYOND", x.turn(6, 0), Due.BEYOND);
        Due.is("turn BEYOND", x.turn(-1, 0), Due.BEYOND);
        Due.is("turn stays", x.of(0, 0), 5);
    }

    private static void asKinds() {
        BumpStreets x = oneOfEach();
        int[] under = {1, 1 | 2, 1 | 4, 1 | 8, 1 | 2 | 16, 1 | 8 | 32};
        for (int d = 0; d < 6; d++) {
            x.set(d, 1, 50 + d);
            for (int kind = 0; kind < 6; kind++) {
                boolean is = (under[d] >> kind & 1) == 1;
                Due.is("as(" + d + ", " + kind + ")", x.as(d, kind), is ? 50 + d : Due.KIND);
            }
        }
        Due.is("as BEYOND", x.as(6, 0), Due.BEYOND);
        Due.is("as BEYOND", x.as(-1, 0), Due.BEYOND);
        Due.is("as BEYOND", x.as(0, 6), Due.BEYOND);
        Due.is("as BEYOND", x.as(0, -1), Due.BEYOND);
        Due.is("status KIND", x.status(2), 36 - 13);
    }

    private static void slows() {
        BumpStreets x = oneOfEach();
        int[][] due = {
            // bump of 3, of 4, narrowing, sign, paint of 0, of 20, of 21, at a wish of 47
            {23, 15, 23, 42, 35, 35, 47},
            {35, 31, 23, 42, 35, 35, 47},
            {23, 8, 23, 42, 35, 35, 47},
            {23, 15, 23, 47, 47, 47, 47},
            {35, 31, 47, 42, 35, 35, 47},
            {28, 20, 28, 47, 47, 47, 47},
        };
        for (int d = 0; d < 6; d++) {
            x.set(d, 1, 47);
            Due.is("slows " + d + " bump 3", x.slows(d, 1, 0), due[d][0]);
            x.high(4);
            Due.is("slows " + d + " bump 4", x.slows(d, 1, 999), due[d][1]);
            x.high(3);
            Due.is("slows " + d + " narrowing", x.slows(d, 2, 0), due[d][2]);
            Due.is("slows " + d + " sign", x.slows(d, 3, 0), due[d][3]);
            Due.is("slows " + d + " paint 0", x.slows(d, 4, 0), due[d][4]);
            Due.is("slows " + d + " paint 20", x.slows(d, 4, 20), due[d][5]);
            Due.is("slows " + d + " paint 21", x.slows(d, 4, 21), due[d][6]);
            Due.is("slows " + d + " paint 999", x.slows(d, 4, 999), due[d][6]);
        }
        Due.is("slows BEYOND", x.slows(6, 1, 0), Due.BEYOND);
        Due.is("slows BEYOND", x.slows(-1, 1, 0), Due.BEYOND);
        Due.is("slows BEYOND", x.slows(0, 0, 0), Due.BEYOND);
        Due.is("slows BEYOND", x.slows(0, 5, 0), Due.BEYOND);
        Due.is("slows BEYOND", x.slows(0, 4, -1), Due.BEYOND);
        Due.is("slows BEYOND", x.slows(0, 1, 1000), Due.BEYOND);
        Due.is("slows BEYOND", x.slows(0, 2, -1), Due.BEYOND);
    }

    private static void slowsAtLeast() {
        BumpStreets x = oneOfEach();
        int[] due = {5, 5, 8, 5, 5, 10};
        x.high(6);
        for (int d = 0; d < 6; d++) {
            x.set(d, 1, 10);
            Due.is("slows at least " + d, x.slows(d, 1, 0), due[d]);
        }
        x.high(3);
        Due.is("lorry over a low bump", x.slows(2, 1, 0), 5);
        x.set(0, 1, 13);
        x.high(1);
        Due.is("just five", x.slows(0, 1, 0), 5);
        x.set(0, 1, 14);
        Due.is("just six", x.slows(0, 1, 0), 6);
        x.set(5, 1, 12);
        Due.is("racer at his wish at most", x.slows(5, 3, 0), 12);
        Due.is("racer at a narrowing", x.slows(5, 2, 0), 11);
    }

    private static void quick() {
        BumpStreets x = oneOfEach();
        x.thing(1, 0, 1);
        x.thing(1, 1, 3);
        x.thing(1, 4, 2);
        int[] driver = {16, 28, 40, 40, 20, 32, 40};
        int[] bus = {28, 34, 40, 40, 20, 26, 32, 38, 40};
        int[] lorry = {16, 22, 28, 34, 20, 26};
        int[] local = {16, 28, 40, 40, 20, 32, 40};
        int[] ambulance = {28, 35, 40, 40, 40, 40};
        int[] racer = {21, 40, 40, 40, 25, 40};
        int[][] due = {driver, bus, lorry, local, ambulance, racer};
        for (int d = 0; d < 6; d++) {
            for (int i = 0; i < due[d].length; i++) {
                Due.is("quick(" + d + ", 1, " + i + ")", x.quick(d, 1, i), due[d][i]);
            }
            Due.is("quick with nothing there", x.quick(d, 0, 0), 40);
            Due.is("quick at the end", x.quick(d, 1, 19), 40);
        }
        x.thing(2, 5, 1);
        x.thing(2, 6, 2);
        x.set(0, 1, 80);
        Due.is("80 over a bump", x.quick(0, 2, 5), 56);
        Due.is("no quicker than 40 in a narrowing", x.quick(0, 2, 6), 40);
        x.high(6);
        Due.is("80 over a high bump", x.quick(0, 2, 5), 32);
        Due.is("hurries less than it slows to", x.quick(0, 2, 6), 40);
        x.turn(0, 1);
        x.thing(2, 7, 3);
        Due.is("bus hurries into a sign", x.quick(0, 2, 7), 46);
        Due.is("quick BEYOND", x.quick(6, 0, 0), Due.BEYOND);
        Due.is("quick BEYOND", x.quick(-1, 0, 0), Due.BEYOND);
        Due.is("quick BEYOND", x.quick(0, 3, 0), Due.BEYOND);
        Due.is("quick BEYOND", x.quick(0, -1, 0), Due.BEYOND);
        Due.is("quick BEYOND", x.quick(0, 0, 20), Due.BEYOND);
        Due.is("quick BEYOND", x.quick(0, 0, -1), Due.BEYOND);
    }

    private static void takesAndShaken() {
        BumpStreets x = oneOfEach();
        x.thing(2, 10, 1);
        x.thing(2, 11, 1);
        // Each stretch by itself is cut: 1227 by 16 is 76, by 28 is 43, by 34 is 36, by 22 is 55, by 21 is 58.
        int[] takes = {76 + 76 + 43, 43 + 43 + 36, 76 + 76 + 55 + 43 + 36, 76 + 76 + 43, 43 + 43, 58 + 58};
        int[] stretches = {3, 3, 5, 3, 2, 2};
        int[] shaken = {8, 22, 16, 8, 22, 14};
        for (int d = 0; d < 6; d++) {
            Due.is("takes " + d, x.takes(d, 2), takes[d] + 30 * (20 - stretches[d]));
            Due.is("takes with nothing there " + d, x.takes(d, 1), 600);
            Due.is("shaken " + d, x.shaken(d, 2), shaken[d]);
            Due.is("shaken with nothing there " + d, x.shaken(d, 0), 0);
        }
        x.set(0, 1, 47);
        x.high(5);
        Due.is("shaken is cut at each bump", x.shaken(0, 2), 3 + 3);
        x.turn(0, 2);
        Due.is("twice what was cut", x.shaken(0, 2), 8 + 8);
        x.set(0, 1, 80);
        x.high(1);
        Due.is("shaken as quick as it is there", x.shaken(0, 2), 14 + 14);
        Due.is("takes BEYOND", x.takes(6, 0), Due.BEYOND);
        Due.is("takes BEYOND", x.takes(0, 3), Due.BEYOND);
        Due.is("takes BEYOND", x.takes(-1, 0), Due.BEYOND);
        Due.is("takes BEYOND", x.takes(0, -1), Due.BEYOND);
        Due.is("shaken BEYOND", x.shaken(6, 0), Due.BEYOND);
        Due.is("shaken BEYOND", x.shaken(0, 3), Due.BEYOND);
        Due.is("shaken BEYOND", x.shaken(-1, 0), Due.BEYOND);
        Due.is("shaken BEYOND", x.shaken(0, -1), Due.BEYOND);
    }
}
