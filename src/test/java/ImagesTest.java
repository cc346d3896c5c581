/** Promises 36 to 40: images, counts and findings. */
public final class ImagesTest {
    public static void main(String[] args) {
        images();
        whatIsNotKept();
        counts();
        findings();
        Due.end();
    }

    private static void images() {
        BumpStreets x = new BumpStreets();
        Due.town(x, "bus wish 30 in 1;paint 0 0;bump 1 1;high 5");
        x.days(3);
        Due.is("image", x.image(), 1);
        String kept = Due.picture(x);
        Due.town(x, "racer;lorry;clear 1 1;sign 0 0;high 2");
        x.turn(0, 5);
        x.set(0, 1, 70);
        x.set(0, 2, 2);
        x.days(9);
        Due.is("undo", x.undo(), 1);
        Due.is("all as it was", Due.picture(x).equals(kept) ? 1 : 0, 1);
        x.driver(0);
        x.days(1);
        Due.is("undo again", x.undo(), 1);
        Due.is("all as it was again", Due.picture(x).equals(kept) ? 1 : 0, 1);
        x.driver(0);
        Due.is("a later image", x.image(), 1);
        x.driver(0);
        Due.is("undo to the later one", x.undo(), 2);
        Due.is("tear", x.tear(), 1);
        Due.is("tear", x.tear(), 0);
        Due.is("undo NONE", x.undo(), Due.NONE);
        Due.is("drivers stay", x.count(0), 2);
        Due.is("image after a tear", x.image(), 1);
        Due.is("undo after that", x.undo(), 2);
    }

    private static void whatIsNotKept() {
        BumpStreets x = new BumpStreets();
        x.feed(1, 1);
        x.sheet(0, 8, 2);
        x.image();
        x.feed(1, 2);
        x.sheet(1, 8, 2);
        x.write(0, 0, 7);
        x.high(9);
        Due.is("undo", x.undo(), 0);
        Due.is("the tape stays", x.count(1), 3);
        Due.is("sheets stay", x.write(0, 0, 1), 7);
        Due.is("sheets stay", x.write(1, 0, 1), 0);
        Due.is("findings stay", x.status(-1), 1);
        // Trials use none of what is kept.
        x.driver(0);
        x.thing(0, 0, 1);
        x.image();
        x.days(1);
        x.leaves(0);
        x.lower(3, 9);
        Due.town(x, "high 1;bad");
        x.undo();
        Due.is("kept as it was", x.of(0, 2) * 1000 + x.now(0) * 100 + x.now(1) * 10 + x.count(2), 31);
    }

    private static void counts() {
        BumpStreets x = new BumpStreets();
        Due.town(x, "bus wish 30 in 1;racer wish 77;bump 0 1;bump 1 19;bump 2 3;bump 2 4;paint 2 5");
        x.feed(0, 3);
        Due.is("drivers", x.count(0), 2);
        Due.is("bytes", x.count(1), 3);
        Due.is("bumps", x.count(2), 4);
        Due.is("wishes", x.count(3), 107);
        Due.is("count BEYOND", x.count(4), Due.BEYOND);
        Due.is("count BEYOND", x.count(-1), Due.BEYOND);
    }

    private static void findings() {
        BumpStreets x = new BumpStreets();
        x.high(0);
        x.high(0);
        for (int i = 0; i < 9; i++) {
            x.driver(0);
        }
        x.as(0, 1);
        x.as(0, 2);
        x.as(0, 3);
        x.undo();
        x.write(0, 0, 0);
        x.write(0, 0, 0);
        x.sheet(0, 8, -1);
        for (int i = 0; i < 100; i++) {
            x.days(100);
        }
        int[] due = {2, 1, 3, 1, 1, 2, 1};
        for (int which = 0; which < 7; which++) {
            Due.is("status " + which, x.status(which), due[which]);
        }
        Due.is("status -1", x.status(-1), 11);
        Due.is("status BEYOND", x.status(7), Due.BEYOND);
        Due.is("status BEYOND counted", x.status(0), 3);
        Due.is("status BEYOND", x.status(-2), Due.BEYOND);
        Due.is("status BEYOND counted", x.status(0), 4);
        Due.is("status -1", x.status(-1), 13);
        x.image();
        x.high(0);
        x.undo();
        Due.is("undo takes none back", x.status(-1), 14);
    }
}
