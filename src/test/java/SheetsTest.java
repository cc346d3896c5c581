/** Promises 30 to 35: the sheets. */
public final class SheetsTest {
    public static void main(String[] args) {
        sheets();
        writes();
        copies();
        lays();
        books();
        reads();
        Due.end();
    }

    private static void sheets() {
        BumpStreets x = new BumpStreets();
        Due.is("sheet", x.sheet(0, 8, 40), 40);
        Due.is("sheet", x.sheet(3, 64, 0), 0);
        Due.is("sheet", x.sheet(1, 16, 1), 1);
        x.write(0, 39, 7);
        x.write(0, 0, 7);
        Due.is("sheet anew", x.sheet(0, 16, 40), 40);
        Due.is("all 0", x.write(0, 39, 5), 0);
        Due.is("all 0", x.write(0, 0, 5), 0);
        Due.is("sheet gone", x.sheet(0, 0, 40), 0);
        Due.is("MISSING", x.write(0, 0, 0), Due.MISSING);
        Due.is("BEYOND sheet", x.sheet(-1, 8, 1), Due.BEYOND);
        Due.is("BEYOND sheet", x.sheet(4, 8, 1), Due.BEYOND);
        Due.is("BEYOND bits", x.sheet(0, 32, 1), Due.BEYOND);
        Due.is("BEYOND bits", x.sheet(0, -8, 1), Due.BEYOND);
        Due.is("BEYOND before SIZE", x.sheet(4, 8, -1), Due.BEYOND);
        Due.is("BEYOND before SIZE", x.sheet(0, 1, -1), Due.BEYOND);
        Due.is("SIZE", x.sheet(1, 8, -1), Due.SIZE);
        Due.is("SIZE", x.sheet(1, 0, Integer.MIN_VALUE), Due.SIZE);
        Due.is("BEYOND n", x.sheet(1, 64, 41), Due.BEYOND);
        Due.is("BEYOND n", x.sheet(1, 0, 41), Due.BEYOND);
        Due.is("sheet 1 stays", x.write(1, 0, 9), 0);
        Due.is("status SIZE", x.status(6), 2);
    }

    private static void writes() {
        BumpStreets x = new BumpStreets();
        x.sheet(0, 8, 3);
        x.sheet(1, 16, 3);
        x.sheet(2, 64, 3);
        for (int s = 0; s < 3; s++) {
            Due.is("write", x.write(s, 2, 100), 0);
            Due.is("write", x.write(s, 2, 1L << 40 | 5), 100);
            Due.is("write", x.write(s, 0, 1), 0);
            Due.is("others stay", x.write(s, 1, 2), 0);
            Due.is("BEYOND", x.write(s, 3, 1), Due.BEYOND);
            Due.is("BEYOND", x.write(s, -1, 1), Due.BEYOND);
        }
        Due.is("lowest 8", x.write(0, 2, 256 + 44), 5);
        Due.is("lowest 8", x.write(0, 2, -1), 44);
        Due.is("lowest 16", x.write(1, 2, 65536 + 300), 5);
        Due.is("lowest 16", x.write(1, 2, -1), 300);
        Due.is("all 64", x.write(2, 2, Long.MIN_VALUE), 1L << 40 | 5);
        Due.is("all 64", x.write(2, 2, 0), Long.MIN_VALUE);
        // The document doesn't tell of a sign: taken as Java's numbers of as many bits.
        Due.is("sign 8", x.write(0, 2, 128), -1);
        Due.is("sign 8", x.write(0, 2, 127), -128);
        Due.is("sign 16", x.write(1, 2, 32768), -1);
        Due.is("sign 16", x.write(1, 2, 128), -32768);
        Due.is("no sign", x.write(1, 2, 0), 128);
        Due.is("BEYOND sheet", x.write(4, 0, 1), Due.BEYOND);
        Due.is("BEYOND sheet", x.write(-1, 0, 1), Due.BEYOND);
        Due.is("MISSING before BEYOND", x.write(3, 99, 1), Due.MISSING);
        Due.is("status MISSING", x.status(5), 1);
    }

    private static BumpStreets counted() {
        BumpStreets x = new BumpStreets();
        x.sheet(0, 8, 6);
        x.sheet(1, 8, 4);
        x.sheet(2, 16, 6);
        for (int i = 0; i < 6; i++) {
            x.write(0, i, i + 1);
        }
        return x;
    }

    private static void row(String what, BumpStreets x, int s, long... due) {
        for (int i = 0; i < due.length; i++) {
            long was = x.write(s, i, 0);
            x.write(s, i, was);
            Due.is(what + " at " + i, was, due[i]);
        }
    }

    private static void copies() {
        BumpStreets x = counted();
        Due.is("copy", x.copy(0, 2, 1, 0, 4), 4);
        row("copied", x, 1, 3, 4, 5, 6);
        Due.is("copy", x.copy(0, 0, 1, 3, 1), 1);
        row("copied", x, 1, 3, 4, 5, 1);
        Due.is("copy up in itself", x.copy(0, 0, 0, 1, 5), 5);
        row("copied", x, 0, 1, 1, 2, 3, 4, 5);
        Due.is("copy down in itself", x.copy(0, 1, 0, 0, 5), 5);
        row("copied", x, 0, 1, 2, 3, 4, 5, 5);
        Due.is("copy none", x.copy(0, 6, 1, 4, 0), 0);
        Due.is("BEYOND before MISSING", x.copy(3, 0, 4, 0, 0), Due.BEYOND);
        Due.is("BEYOND before MISSING", x.copy(-1, 0, 3, 0, 0), Due.BEYOND);
        Due.is("MISSING", x.copy(3, 0, 0, 0, -1), Due.MISSING);
        Due.is("MISSING", x.copy(0, 0, 3, 0, 0), Due.MISSING);
        Due.is("KIND before BEYOND", x.copy(0, -1, 2, 0, 1), Due.KIND);
        Due.is("KIND", x.copy(2, 0, 1, 0, 0), Due.KIND);
        Due.is("BEYOND from", x.copy(0, -1, 1, 0, 1), Due.BEYOND);
        Due.is("BEYOND to", x.copy(0, 0, 1, -1, 1), Due.BEYOND);
        Due.is("BEYOND n", x.copy(0, 0, 1, 0, -1), Due.BEYOND);
        Due.is("BEYOND of the one", x.copy(0, 3, 1, 0, 4), Due.BEYOND);
        Due.is("BEYOND of the other", x.copy(0, 0, 1, 1, 4), Due.BEYOND);
        Due.is("BEYOND with none", x.copy(0, 7, 1, 0, 0), Due.BEYOND);
        Due.is("BEYOND with none", x.copy(0, 0, 1, 5, 0), Due.BEYOND);
        Due.is("BEYOND far", x.copy(0, Integer.MAX_VALUE, 1, 0, 2), Due.BEYOND);
        Due.is("BEYOND far", x.copy(0, 1, 1, 1, Integer.MAX_VALUE), Due.BEYOND);
        row("nothing copied", x, 1, 3, 4, 5, 1);
    }

    private static void lays() {
        BumpStreets x = new BumpStreets();
        x.sheet(0, 64, 40);
        for (int i = 0; i < 40; i++) {
            x.write(0, i, 1);
        }
        x.write(0, 0, 4);
        x.write(0, 1, 5);
        x.write(0, 2, -1);
        x.write(0, 3, 0);
        x.write(0, 4, 1L << 32 | 1);
        x.thing(1, 0, 4);
        x.thing(1, 1, 2);
        x.thing(1, 3, 3);
        x.days(2);
        Due.is("lays", x.lays(0, 1), 17);
        Due.is("paint anew", x.stretch(1, 0, 1), 0);
        Due.is("5 is left out", x.stretch(1, 1, 0), 2);
        Due.is("-1 is left out", x.stretch(1, 2, 0), 0);
        Due.is("0 clears", x.stretch(1, 3, 0), 0);
        Due.is("a great one is left out", x.stretch(1, 4, 0), 0);
        Due.is("bumps", x.street(1, 1), 15);
        Due.is("no other street", x.street(0, 0) + x.street(2, 0), 0);
        x.sheet(1, 8, 2);
        x.write(1, 1, 256 + 3);
        Due.is("lays", x.lays(1, 2), 2);
        Due.is("sign", x.stretch(2, 1, 0), 3);
        x.sheet(1, 16, 0);
        Due.is("lays none", x.lays(1, 2), 0);
        Due.is("BEYOND sheet", x.lays(4, 0), Due.BEYOND);
        Due.is("MISSING before BEYOND", x.lays(2, 3), Due.MISSING);
        Due.is("BEYOND street", x.lays(0, 3), Due.BEYOND);
        Due.is("BEYOND street", x.lays(0, -1), Due.BEYOND);
    }

    private static void books() {
        BumpStreets x = new BumpStreets();
        x.driver(1);
        x.thing(2, 1, 1);
        x.sheet(0, 8, 4);
        Due.is("book", x.book(0, 0, 2), 4);
        row("book", x, 0, 40, 28, 34, 40);
        x.sheet(1, 64, 40);
        x.write(1, 20, 99);
        Due.is("book", x.book(1, 0, 2), 20);
        row("book", x, 1, 40, 28, 34, 40, 40);
        Due.is("the 21st stays", x.write(1, 20, 0), 99);
        Due.is("the 20th came", x.write(1, 19, 0), 40);
        x.set(0, 1, 80);
        x.sheet(0, 8, 1);
        x.book(0, 0, 0);
        row("80 in 8 bits", x, 0, 80);
        Due.is("BEYOND sheet", x.book(4, 0, 0), Due.BEYOND);
        Due.is("BEYOND sheet", x.book(-1, 0, 0), Due.BEYOND);
        Due.is("MISSING before BEYOND", x.book(2, 9, 0), Due.MISSING);
        Due.is("BEYOND driver", x.book(0, 1, 0), Due.BEYOND);
        Due.is("BEYOND driver", x.book(0, -1, 0), Due.BEYOND);
        Due.is("BEYOND street", x.book(0, 0, 3), Due.BEYOND);
        Due.is("BEYOND street", x.book(0, 0, -1), Due.BEYOND);
    }

    private static void reads() {
        BumpStreets x = new BumpStreets();
        x.driver(2);
        x.sheet(0, 8, 0);
        Due.is("all fit none", x.read(0, 0, 0), 6 * 71);
        x.sheet(0, 8, 20);
        x.book(0, 0, 0);
        Due.is("each kind at 40", x.read(0, 0, 0), 6);
        x.write(0, 19, 41);
        Due.is("none", x.read(0, 0, 0), 0);
        x.thing(1, 4, 1);
        x.book(0, 0, 1);
        // Only a lorry is at 16 over the bump and hurries by 6.
        Due.is("a lorry", x.read(0, 0, 1), 1);
        x.sheet(1, 8, 5);
        x.copy(0, 0, 1, 0, 5);
        Due.is("driver, lorry, local before they hurry", x.read(1, 0, 1), 3);
        x.sheet(2, 64, 1);
        x.write(2, 0, 10);
        Due.is("wish 10", x.read(2, 0, 0), 6);
        x.write(2, 0, 80);
        Due.is("wish 80", x.read(2, 0, 0), 6);
        x.write(2, 0, 81);
        Due.is("wish 81", x.read(2, 0, 0), 0);
        x.write(2, 0, 9);
        Due.is("wish 9", x.read(2, 0, 0), 0);
        x.write(2, 0, 1L << 32 | 40);
        Due.is("not only the lower half", x.read(2, 0, 0), 0);
        Due.is("the driver stays", x.of(0, 0) * 100 + x.of(0, 1), 240);
        x.sheet(3, 16, 21);
        Due.is("BEYOND before SIZE", x.read(3, 1, 0), Due.BEYOND);
        Due.is("BEYOND before SIZE", x.read(3, 0, 3), Due.BEYOND);
        Due.is("SIZE", x.read(3, 0, 0), Due.SIZE);
        x.sheet(3, 0, 0);
        Due.is("MISSING before BEYOND", x.read(3, 1, 0), Due.MISSING);
        Due.is("BEYOND sheet", x.read(4, 0, 0), Due.BEYOND);
        Due.is("BEYOND sheet", x.read(-1, 0, 0), Due.BEYOND);
        Due.is("BEYOND driver", x.read(0, -1, 0), Due.BEYOND);
        Due.is("BEYOND street", x.read(0, 0, -1), Due.BEYOND);
    }
}
