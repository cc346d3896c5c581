/** Promises 27 to 29: the tape and the text. */
public final class TextTest {
    public static void main(String[] args) {
        feeds();
        items();
        faults();
        faultsChangeNothing();
        manyDrivers();
        whatWasThereBefore();
        fullTape();
        Due.end();
    }

    private static void feeds() {
        BumpStreets x = new BumpStreets();
        Due.is("feed BEYOND", x.feed(1, 0), Due.BEYOND);
        Due.is("feed BEYOND", x.feed(1, 5), Due.BEYOND);
        Due.is("feed BEYOND", x.feed(1, -1), Due.BEYOND);
        for (int i = 1; i <= 29; i++) {
            Due.is("feed", x.feed(0x20202020, 4), 4 * i);
        }
        Due.is("feed", x.feed(-1, 2), 118);
        Due.is("feed FULL", x.feed(0, 3), Due.FULL);
        Due.is("feed BEYOND before FULL", x.feed(0, 5), Due.BEYOND);
        Due.is("feed", x.feed(0, 2), 120);
        Due.is("feed FULL", x.feed(0, 1), Due.FULL);
        Due.is("count", x.count(1), 120);
        Due.is("wipe", x.wipe(), 120);
        Due.is("wipe", x.wipe(), 0);
        Due.is("count", x.count(1), 0);
        // The n lowest bytes, the highest of these first; what is above them is left out.
        Due.is("feed", x.feed(0x62, 1), 1);
        Due.is("feed", x.feed(0x78757320, 3), 4);
        Due.is("town", x.town(), 1);
        Due.is("a bus", x.of(0, 0), 1);
        Due.is("count", x.count(1), 0);
    }

    private static void items() {
        BumpStreets x = new BumpStreets();
        Due.is("town", Due.town(x, "driver;bus;lorry;local;ambulance;racer"), 6);
        for (int d = 0; d < 6; d++) {
            Due.is("kind", x.of(d, 0), d);
            Due.is("wish", x.of(d, 1), 40);
            Due.is("street", x.of(d, 2), 0);
        }
        Due.is("town", Due.town(x, "racer wish 80 in 2;bus in 1"), 2);
        Due.is("wish", x.of(6, 1), 80);
        Due.is("street", x.of(6, 2), 2);
        Due.is("wish", x.of(7, 1), 40);
        Due.is("street", x.of(7, 2), 1);
        Due.is("town", Due.town(x, "bump 0 0; narrow 1 19 ;sign 2 5; paint 0 7;high 6"), 5);
        Due.is("bump", x.stretch(0, 0, 0), 1);
        Due.is("narrow", x.stretch(1, 19, 0), 2);
        Due.is("sign", x.stretch(2, 5, 0), 3);
        Due.is("paint", x.stretch(0, 7, 0), 4);
        Due.is("high", x.now(1), 6);
        x.days(4);
        Due.is("town", Due.town(x, "clear 0 0;paint 0 7;high 1"), 3);
        Due.is("clear", x.stretch(0, 0, 0), 0);
        Due.is("paint anew", x.stretch(0, 7, 1), 0);
        Due.is("high", x.now(1), 1);
        Due.is("day stays", x.now(0), 4);
        // Blanks only where tokens would run together; leading noughts are digits too.
        Due.is("town", Due.town(x, "bump1 07;bump 2 0000019;high002"), 3);
        Due.is("bump", x.stretch(1, 7, 0), 1);
        Due.is("bump", x.stretch(2, 19, 0), 1);
        Due.is("high", x.now(1), 2);
        Due.is("town", Due.town(x, "  high   3  ;  high 4  "), 2);
        Due.is("the later one stays", x.now(1), 4);
        BumpStreets y = new BumpStreets();
        Due.is("town", Due.town(y, "bus wish10in2;bus wish 80"), 2);
        Due.is("wish", y.of(0, 1), 10);
        Due.is("street", y.of(0, 2), 2);
        Due.is("wish", y.of(1, 1), 80);
        Due.is("town", Due.town(y, "bus in 0;clear 0 9;bump 2 9"), 3);
        Due.is("street", y.of(2, 2), 0);
        Due.is("bump", y.stretch(2, 9, 0), 1);
    }

    private static void fault(String text, int place) {
        BumpStreets x = new BumpStreets();
        Due.is("town of '" + text + "'", Due.town(x, text), -1 - place);
        Due.is("tape after '" + text + "'", x.count(1), 0);
        Due.is("drivers after '" + text + "'", x.count(0), 0);
        Due.is("bumps after '" + text + "'", x.count(2), 0);
        Due.is("high after '" + text + "'", x.now(1), 3);
        Due.is("no finding in '" + text + "'", x.status(-1), 0);
    }

    private static void faults() {
        fault("", 0);
        fault("   ", 3);
        fault(";", 0);
        fault("5", 0);
        fault(" 5", 1);
        fault("high 2;", 7);
        fault("high 2; ", 8);
        fault("high 2;;high 3", 7);
        fault("high", 4);
        fault("high ", 5);
        fault("high 0", 5);
        fault("high 7", 5);
        fault("high 1000", 5);
        fault("high 99999999999999999999999", 5);
        fault("high 4294967299", 5);
        fault("high x", 5);
        fault("high ;", 5);
        fault("high 2 3", 7);
        fault("high 2 high 3", 7);
        fault("high 2x", 6);
        fault("highest 2", 0);
        fault("hig 2", 0);
        fault("High 2", 0);
        fault("high 2,high 3", 6);
        fault("high\t2", 4);
        fault("high 2\n", 6);
        fault("high -2", 5);
        fault("high 2;" + (char) 233, 7);
        fault("high 2" + (char) 0, 6);
        fault("bump", 4);
        fault("bump 3 0", 5);
        fault("bump 0", 6);
        fault("bump 0 ", 7);
        fault("bump 0 20", 7);
        fault("bump 05", 5);
        fault("bump 00", 7);
        fault("bump 5 0", 5);
        fault("bump 0;", 6);
        fault("bump 0 5 6", 9);
        fault("bump 0 5;sign 0 20", 16);
        fault("clear 0 20", 8);
        fault("bus wish", 8);
        fault("bus wish 9", 9);
        fault("bus wish 81", 9);
        fault("bus wish in 2", 9);
        fault("bus in 3", 7);
        fault("bus in", 6);
        fault("bus in 2 wish 40", 9);
        fault("bus wish 40 wish 40", 12);
        fault("bus in 1 in 2", 9);
        fault("bus 40", 4);
        fault("bus bus", 4);
        fault("bump x 5", 5);
        fault("bump 0 x", 7);
        fault("bump ; 5", 5);
        fault("bus in x", 7);
        fault("cus", 0);
        fault("fump 0 1", 0);
        fault("bus fish 40", 4);
        fault("bus an 1", 4);
        fault("busz", 0);
        fault("zbus", 0);
        fault("abus", 0);
        fault("bus`", 3);
        fault("bus{", 3);
        fault("high 2/", 6);
        fault("high 2:", 6);
        fault("wish 40", 0);
        fault("in 2", 0);
        fault("buswish 40", 0);
        fault("bus;lorry;bump 0 1;high 2;car", 26);
    }

    private static void faultsChangeNothing() {
        BumpStreets x = new BumpStreets();
        Due.town(x, "bus wish 30 in 1;paint 0 0;bump 1 1;high 5");
        x.days(3);
        String before = Due.picture(x);
        Due.is("town", Due.town(x, "lorry;clear 1 1;paint 0 0;high 2;bus wish 9"), -1 - 42);
        Due.is("nothing changes", Due.picture(x).equals(before) ? 1 : 0, 1);
        Due.is("no finding", x.status(-1), 0);
    }

    private static void manyDrivers() {
        BumpStreets x = new BumpStreets();
        Due.is("eight", Due.town(x, "bus;bus;bus;bus;bus;bus;bus;bus"), 8);
        Due.is("a 9th", Due.town(x, "high 2;bus wish 9"), -1 - 7);
        Due.is("high stays", x.now(1), 3);
        Due.is("others still come", Due.town(x, "high 2"), 1);
        BumpStreets y = new BumpStreets();
        y.driver(0);
        y.driver(0);
        Due.is("a 9th", Due.town(y, "bus;bus;bus;bus;bus;bus; bus;bus"), -1 - 25);
        Due.is("none came", y.count(0), 2);
        Due.is("six more", Due.town(y, "bus;bus;bus;bus;bus;bus"), 6);
        Due.is("eight", y.count(0), 8);
    }

    /** Bytes of an earlier text are no part of a shorter one. */
    private static void whatWasThereBefore() {
        BumpStreets x = new BumpStreets();
        Due.feed(x, "bump 0 19;high 44");
        x.wipe();
        Due.is("a number ends with the tape", Due.town(x, "bump 0 1"), 1);
        Due.is("stretch 1", x.street(0, 0), 2);
        Due.feed(x, "buses  ");
        x.wipe();
        Due.is("a word ends with the tape", Due.town(x, "bus"), 1);
        Due.feed(x, "high 2   ");
        x.wipe();
        Due.is("the tape ends before old blanks", Due.town(x, "high "), -1 - 5);
    }

    private static void fullTape() {
        StringBuilder blanks = new StringBuilder();
        for (int i = 0; i < 114; i++) {
            blanks.append(' ');
        }
        String[] texts = {"high 5", "  bus ", "bus   ", "   bus", "racer;", "  bump", "      "};
        int[] due = {1, 1, 1, 1, -121, -121, -121};
        for (int i = 0; i < texts.length; i++) {
            BumpStreets x = new BumpStreets();
            Due.is("town of 120 bytes with " + texts[i], Due.town(x, blanks + texts[i]), due[i]);
        }
        StringBuilder items = new StringBuilder("high 0001");
        for (int i = 0; i < 15; i++) {
            items.append(";high 2");
        }
        BumpStreets x = new BumpStreets();
        Due.is("town of many items", Due.town(x, items + ";high3"), 17);
        Due.is("high", x.now(1), 3);
    }
}
