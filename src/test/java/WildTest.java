/**
 * Runs of 512 calls with ordinary and with wild numbers: none throws, a finding
 * changes nothing but status(), and the same calls get the same answers.
 */
public final class WildTest {
    private static final int[] WILD = {
        Integer.MIN_VALUE, Integer.MAX_VALUE, -1000000001, -100, -2, -1, 0, 1, 2, 3, 4, 5, 6, 7, 8, 9, 19, 20, 21,
        39, 40, 41, 64, 80, 81, 99, 100, 101, 120, 255, 256, 999, 1000, 9999, 10000, 99999, 100000, 1 << 30,
    };
    private static final String[] PIECES = {
        "bus ", "racer", "wish ", "in ", "40", "2", "1 ", ";", "bump ", "paint ", "7", "high ", "clear", " ", "x", "?",
    };

    public static void main(String[] args) {
        for (int seed = 0; seed < 200; seed++) {
            run(seed);
        }
        Due.end();
    }

    private static void run(int seed) {
        RandomTown random = new RandomTown(seed);
        BumpStreets x = new BumpStreets();
        BumpStreets twin = new BumpStreets();
        int[] found = new int[7];
        for (int i = 0; i < 512; i++) {
            int call = random.below(40);
            int[] a = arguments(random);
            String before = Due.picture(x);
            long got = ask(x, call, a);
            Due.is("the same answer of " + call, ask(twin, call, a), got);
            if (call != 30 && got < -1000000000 && got >= -1000000007) {
                found[(int) (-1000000001 - got)]++;
                Due.is("nothing changes by a finding of " + call, before.equals(Due.picture(x)) ? 1 : 0, 1);
            }
            if (call == 30) {
                // What stood on a sheet may look like a finding; its own are told by status().
                for (int f = 0; f < 7; f++) {
                    found[f] = x.status(f);
                }
            }
        }
        for (int f = 0; f < 7; f++) {
            Due.is("status " + f, x.status(f), found[f]);
        }
        Due.is("same at the end", Due.picture(x).equals(Due.picture(twin)) ? 1 : 0, 1);
    }

    private static int[] arguments(RandomTown random) {
        int[] a = new int[5];
        int range = random.below(3) == 0 ? 21 : 4;
        for (int i = 0; i < a.length; i++) {
            a[i] = random.below(12) == 0 ? WILD[random.below(WILD.length)] : random.below(range);
        }
        return a;
    }

    private static long ask(BumpStreets x, int call, int[] a) {
        return call < 20 ? askFirst(x, call, a) : askOther(x, call, a);
    }

    private static long askFirst(BumpStreets x, int call, int[] a) {
        switch (call) {
            case 0: return x.thing(a[0], a[1], a[2]);
            case 1: return x.stretch(a[0], a[1], a[2]);
            case 2: return x.high(a[0]);
            case 3: return x.street(a[0], a[1]);
            case 4: return x.now(a[0]);
            case 5: return x.driver(a[0]);
            case 6: return x.of(a[0], a[1]);
            case 7: return x.set(a[0], a[1], a[2] * 4);
            case 8: return x.turn(a[0], a[1]);
            case 9: return x.as(a[0], a[1]);
            case 10: return x.slows(a[0], a[1], a[2]);
            case 11: return x.quick(a[0], a[1], a[2]);
            case 12: return x.takes(a[0], a[1]);
            case 13: return x.shaken(a[0], a[1]);
            case 14: return x.days(a[0]);
            case 15: return x.on(a[0], a[1]);
            case 16: return x.then(a[0], a[1]);
            case 17: return x.leaves(a[0]);
            case 18: return x.tame(a[0], a[1]);
            default: return x.clear(a[0], a[1]);
        }
    }

    private static long askOther(BumpStreets x, int call, int[] a) {
        switch (call) {
            case 20: return x.lower(a[0], a[1]);
            case 21: return x.kind(a[0], a[1]);
            case 22: return x.wish(a[0], a[1], a[2] * 400);
            case 23: return x.drives(a[0]);
            case 24: return x.slowest();
            case 25: return x.feed(a[0], a[1]);
            case 26: return x.wipe();
            case 27: return wildTown(x, a);
            case 28: return x.town();
            case 29: return x.sheet(a[0], a[1] < 4 && a[1] >= 0 ? a[1] * 8 : 64, a[2]);
            case 30: return x.write(a[0], a[1], (long) a[2] * a[3]);
            case 31: return x.copy(a[0], a[1], a[2], a[3], a[4]);
            case 32: return x.lays(a[0], a[1]);
            case 33: return x.book(a[0], a[1], a[2]);
            case 34: return x.read(a[0], a[1], a[2]);
            case 35: return x.image();
            case 36: return x.undo();
            case 37: return x.tear();
            case 38: return x.count(a[0]);
            default: return x.status(a[0]);
        }
    }

    private static long wildTown(BumpStreets x, int[] a) {
        x.wipe();
        for (int i = 0; i < 5; i++) {
            Due.feed(x, PIECES[(a[i] & Integer.MAX_VALUE) % PIECES.length]);
        }
        return x.town();
    }
}
