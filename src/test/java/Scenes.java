/** Towns to ask at a boundary, made anew for each question. */
final class Scenes {
    private Scenes() {
    }

    static BumpStreets empty() {
        return new BumpStreets();
    }

    static BumpStreets one() {
        BumpStreets x = new BumpStreets();
        x.driver(0);
        return x;
    }

    /** Three drivers, all things, paint of several ages, sheets of all sizes (3 is missing), a tape and an image. */
    static BumpStreets busy() {
        BumpStreets x = new BumpStreets();
        tell(x, "bus wish 30 in 1;racer;lorry wish 77 in 2;bump 0 3;paint 1 4;sign 2 5;narrow 2 6;high 4");
        x.days(3);
        x.image();
        x.thing(0, 7, 4);
        x.set(0, 1, 33);
        x.days(2);
        x.set(0, 2, 1);
        x.set(1, 2, 0);
        x.set(2, 2, 2);
        x.sheet(0, 8, 6);
        x.sheet(1, 16, 6);
        x.sheet(2, 64, 21);
        for (int i = 0; i < 6; i++) {
            x.write(0, i, i + 1);
            x.write(1, i, 10 * i);
            x.write(2, i, 3);
        }
        feed(x, "high 5;bump 1 9;sign 0 19");
        return x;
    }

    static BumpStreets crowded() {
        BumpStreets x = busy();
        for (int kind = 0; kind < 5; kind++) {
            x.driver(kind);
        }
        return x;
    }

    /** A thing on each stretch of each street, and one driver. */
    static BumpStreets packed() {
        BumpStreets x = one();
        x.sheet(0, 8, 20);
        for (int i = 0; i < 20; i++) {
            x.write(0, i, 1 + i % 4);
        }
        for (int street = 0; street < 3; street++) {
            x.lays(0, street);
        }
        return x;
    }

    /** Four bytes at a time, as far as they go: 512 calls are soon gone. */
    static void feed(BumpStreets x, String text) {
        for (int i = 0; i < text.length(); i += 4) {
            int n = Math.min(4, text.length() - i);
            int bytes = 0;
            for (int j = 0; j < n; j++) {
                bytes = bytes << 8 | text.charAt(i + j);
            }
            x.feed(bytes, n);
        }
    }

    static int tell(BumpStreets x, String text) {
        feed(x, text);
        return x.town();
    }

    static BumpStreets told(String text) {
        BumpStreets x = new BumpStreets();
        tell(x, text);
        return x;
    }

    static BumpStreets atDay(int day) {
        BumpStreets x = new BumpStreets();
        goTo(x, day);
        return x;
    }

    static void goTo(BumpStreets x, int day) {
        for (int now = x.now(0); now < day; now += 100) {
            x.days(Math.min(100, day - now));
        }
    }
}
