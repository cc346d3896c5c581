import java.lang.reflect.Array;
import java.util.ArrayList;
import java.util.List;
import java.util.function.IntPredicate;
import java.util.function.IntUnaryOperator;
import java.util.stream.IntStream;

/**
 * The document told once more, promise by promise and as plainly as its
 * sentences go: what BumpStreets answers is asked of this, too. It bears the
 * names of the face, and shares nothing with the class.
 */
final class Told {
    private static final int BEYOND = -1000000001;
    private static final int FULL = -1000000002;
    private static final int KIND = -1000000003;
    private static final int NONE = -1000000004;
    private static final int STATE = -1000000005;
    private static final int MISSING = -1000000006;
    private static final int SIZE = -1000000007;

    private ToldTown town = new ToldTown();
    private ToldTown kept = null;
    private final StringBuilder tape = new StringBuilder();
    private final Object[] sheets = new Object[4];
    private final List<Integer> findings = new ArrayList<>();

    // ---- streets

    int thing(int street, int stretch, int v) {
        if (!isStretch(street, stretch) || !in(v, 0, 4)) {
            return finding(BEYOND);
        }
        int was = town.at(street, stretch).thing;
        town.lay(street, stretch, v);
        return was;
    }

    int stretch(int street, int stretch, int what) {
        if (!isStretch(street, stretch) || !in(what, 0, 1)) {
            return finding(BEYOND);
        }
        ToldTown.Stretch there = town.at(street, stretch);
        return what == 0 ? there.thing : there.thing == 4 ? there.age : 0;
    }

    int high(int v) {
        if (!in(v, 1, 6)) {
            return finding(BEYOND);
        }
        int was = town.high;
        town.high = v;
        return was;
    }

    int street(int street, int what) {
        if (!isStreet(street) || !in(what, 0, 3)) {
            return finding(BEYOND);
        }
        IntPredicate goesThere = d -> town.drivers.get(d).street == street;
        return switch (what) {
            case 0 -> set(IntStream.range(0, 20).filter(i -> town.at(street, i).thing != 0));
            case 1 -> (int) IntStream.range(0, 20).filter(i -> town.at(street, i).thing == 1).count();
            case 2 -> set(drivers().filter(goesThere));
            default -> drivers().filter(goesThere).map(d -> town.shaken(town.drivers.get(d), street)).sum();
        };
    }

    int now(int what) {
        return switch (what) {
            case 0 -> town.day;
            case 1 -> town.high;
            case 2 -> town.shakenByAll();
            case 3 -> town.takesAll();
            default -> finding(BEYOND);
        };
    }

    // ---- drivers

    int driver(int kind) {
        if (!in(kind, 0, 5)) {
            return finding(BEYOND);
        }
        if (town.drivers.size() == 8) {
            return finding(FULL);
        }
        town.drivers.add(new ToldTown.Driver(kind, 40, 0));
        return town.drivers.size() - 1;
    }

    int of(int driver, int what) {
        if (!isDriver(driver) || !in(what, 0, 5)) {
            return finding(BEYOND);
        }
        ToldTown.Driver one = town.drivers.get(driver);
        return switch (what) {
            case 0 -> one.kind;
            case 1 -> one.wish;
            case 2 -> one.street;
            case 3 -> ToldKind.ALL[one.kind].hurries();
            case 4 -> town.takes(one, one.street);
            default -> town.shaken(one, one.street);
        };
    }

    int set(int driver, int what, int v) {
        if (!isDriver(driver) || !in(what, 1, 2) || !(what == 1 ? in(v, 10, 80) : isStreet(v))) {
            return finding(BEYOND);
        }
        ToldTown.Driver one = town.drivers.get(driver);
        int was = what == 1 ? one.wish : one.street;
        town.drivers.set(driver, what == 1 ? one.wishing(v) : one.going(v));
        return was;
    }

    int turn(int driver, int kind) {
        if (!isDriver(driver) || !in(kind, 0, 5)) {
            return finding(BEYOND);
        }
        ToldTown.Driver one = town.drivers.get(driver);
        town.drivers.set(driver, one.turned(kind));
        return one.kind;
    }

    int as(int driver, int kind) {
        if (!isDriver(driver) || !in(kind, 0, 5)) {
            return finding(BEYOND);
        }
        ToldTown.Driver one = town.drivers.get(driver);
        if (!ToldKind.ALL[kind].getClass().isInstance(ToldKind.ALL[one.kind])) {
            return finding(KIND);
        }
        return one.wish;
    }

    int slows(int driver, int thing, int age) {
        if (!isDriver(driver) || !in(thing, 1, 4) || !in(age, 0, 999)) {
            return finding(BEYOND);
        }
        ToldTown.Driver one = town.drivers.get(driver);
        return ToldKind.ALL[one.kind].slowsTo(one.wish, town.high, thing, age);
    }

    int quick(int driver, int street, int stretch) {
        if (!isDriver(driver) || !isStretch(street, stretch)) {
            return finding(BEYOND);
        }
        return town.quick(town.drivers.get(driver), street)[stretch];
    }

    int takes(int driver, int street) {
        if (!isDriver(driver) || !isStreet(street)) {
            return finding(BEYOND);
        }
        return town.takes(town.drivers.get(driver), street);
    }

    int shaken(int driver, int street) {
        if (!isDriver(driver) || !isStreet(street)) {
            return finding(BEYOND);
        }
        return town.shaken(town.drivers.get(driver), street);
    }

    // ---- days

    int days(int n) {
        if (!in(n, 1, 100)) {
            return finding(BEYOND);
        }
        if (town.day + n > 9999) {
            return finding(STATE);
        }
        town = town.on(n);
        return town.shakenByAll();
    }

    int on(int driver, int n) {
        if (!isDriver(driver) || !in(n, 0, 100)) {
            return finding(BEYOND);
        }
        return town.on(n).drivers.get(driver).street;
    }

    int then(int n, int what) {
        if (!in(n, 0, 100) || !in(what, 0, 1)) {
            return finding(BEYOND);
        }
        return what == 0 ? town.on(n).shakenByAll() : town.on(n).takesAll();
    }

    int leaves(int driver) {
        if (!isDriver(driver)) {
            return finding(BEYOND);
        }
        int now = town.drivers.get(driver).street;
        ToldTown later = town;
        for (int n = 1; n <= 100; n++) {
            later = later.on(1);
            if (later.drivers.get(driver).street != now) {
                return n;
            }
        }
        return finding(NONE);
    }

    // ---- what is best

    int tame(int driver, int street) {
        if (!isDriver(driver) || !isStreet(street)) {
            return finding(BEYOND);
        }
        ToldTown.Driver one = town.drivers.get(driver);
        IntStream bare = IntStream.range(0, 20).filter(i -> town.at(street, i).thing == 0);
        return least(bare, i -> IntStream.of(town.with(street, i, 1).quick(one, street)).max().getAsInt());
    }

    int clear(int street, int n) {
        if (!isStreet(street) || !in(n, 0, 20)) {
            return finding(BEYOND);
        }
        IntStream laid = IntStream.range(0, 20).filter(i -> town.at(street, i).thing != 0);
        return least(laid, i -> town.with(street, i, 0).on(n).shakenByAll());
    }

    int lower(int n, int v) {
        if (!in(n, 0, 20) || !in(v, 0, 99999)) {
            return finding(BEYOND);
        }
        IntStream may = IntStream.rangeClosed(1, 6).filter(h -> town.withHigh(h).on(n).shakenByAll() <= v);
        return least(may, h -> -h);
    }

    int kind(int driver, int street) {
        if (!isDriver(driver) || !isStreet(street)) {
            return finding(BEYOND);
        }
        ToldTown.Driver one = town.drivers.get(driver);
        return least(IntStream.range(0, 6), kind -> town.takes(one.turned(kind), street));
    }

    int wish(int driver, int street, int t) {
        if (!isDriver(driver) || !isStreet(street) || !in(t, 0, 9999)) {
            return finding(BEYOND);
        }
        ToldTown.Driver one = town.drivers.get(driver);
        IntStream inTime = IntStream.rangeClosed(10, 80).filter(w -> town.takes(one.wishing(w), street) <= t);
        return least(inTime, w -> town.shaken(one.wishing(w), street));
    }

    int drives(int stretch) {
        if (!in(stretch, 0, 19)) {
            return finding(BEYOND);
        }
        return least(IntStream.range(0, 3), street -> {
            ToldTown then = town.with(street, stretch, 1).on(1);
            return -(int) drivers().filter(d -> then.drivers.get(d).street != town.drivers.get(d).street).count();
        });
    }

    int slowest() {
        return least(drivers(), d -> {
            ToldTown.Driver one = town.drivers.get(d);
            return -(town.takes(one, 0) + town.takes(one, 1) + town.takes(one, 2));
        });
    }

    // ---- the text

    int feed(int bytes, int n) {
        if (!in(n, 1, 4)) {
            return finding(BEYOND);
        }
        if (tape.length() + n > 120) {
            return finding(FULL);
        }
        byte[] all = {(byte) (bytes >> 24), (byte) (bytes >> 16), (byte) (bytes >> 8), (byte) bytes};
        for (int i = 4 - n; i < 4; i++) {
            tape.append((char) Byte.toUnsignedInt(all[i]));
        }
        return tape.length();
    }

    int wipe() {
        int had = tape.length();
        tape.setLength(0);
        return had;
    }

    int town() {
        String text = tape.toString();
        tape.setLength(0);
        ToldTown told = town.on(0);
        try {
            int items = new ToldText(text).comesTo(told);
            town = told;
            return items;
        } catch (ToldText.Fault fault) {
            return -1 - fault.place;
        }
    }

    // ---- sheets

    int sheet(int s, int bits, int n) {
        if (!in(s, 0, 3) || bits != 0 && bits != 8 && bits != 16 && bits != 64) {
            return finding(BEYOND);
        }
        if (n < 0) {
            return finding(SIZE);
        }
        if (n > 40) {
            return finding(BEYOND);
        }
        sheets[s] = bits == 0 ? null : bits == 8 ? new byte[n] : bits == 16 ? new short[n] : new long[n];
        return bits == 0 ? 0 : n;
    }

    long write(int s, int i, long v) {
        if (!in(s, 0, 3)) {
            return finding(BEYOND);
        }
        if (sheets[s] == null) {
            return finding(MISSING);
        }
        if (!in(i, 0, Array.getLength(sheets[s]) - 1)) {
            return finding(BEYOND);
        }
        long was = Array.getLong(sheets[s], i);
        put(sheets[s], i, v);
        return was;
    }

    int copy(int s, int from, int t, int to, int n) {
        if (!in(s, 0, 3) || !in(t, 0, 3)) {
            return finding(BEYOND);
        }
        if (sheets[s] == null || sheets[t] == null) {
            return finding(MISSING);
        }
        if (sheets[s].getClass() != sheets[t].getClass()) {
            return finding(KIND);
        }
        if (from < 0 || to < 0 || n < 0 || (long) from + n > Array.getLength(sheets[s])
            || (long) to + n > Array.getLength(sheets[t])) {
            return finding(BEYOND);
        }
        long[] were = new long[n];
        for (int i = 0; i < n; i++) {
            were[i] = Array.getLong(sheets[s], from + i);
        }
        for (int i = 0; i < n; i++) {
            put(sheets[t], to + i, were[i]);
        }
        return n;
    }

    int lays(int s, int street) {
        if (!in(s, 0, 3)) {
            return finding(BEYOND);
        }
        if (sheets[s] == null) {
            return finding(MISSING);
        }
        if (!isStreet(street)) {
            return finding(BEYOND);
        }
        int came = 0;
        for (int i = 0; i < Array.getLength(sheets[s]); i++) {
            long v = Array.getLong(sheets[s], i);
            if (i <= 19 && v >= 0 && v <= 4) {
                town.lay(street, i, (int) v);
                came++;
            }
        }
        return came;
    }

    int book(int s, int driver, int street) {
        if (!in(s, 0, 3)) {
            return finding(BEYOND);
        }
        if (sheets[s] == null) {
            return finding(MISSING);
        }
        if (!isDriver(driver) || !isStreet(street)) {
            return finding(BEYOND);
        }
        int many = Math.min(20, Array.getLength(sheets[s]));
        for (int i = 0; i < many; i++) {
            put(sheets[s], i, town.quick(town.drivers.get(driver), street)[i]);
        }
        return many;
    }

    int read(int s, int driver, int street) {
        if (!in(s, 0, 3)) {
            return finding(BEYOND);
        }
        if (sheets[s] == null) {
            return finding(MISSING);
        }
        if (!isDriver(driver) || !isStreet(street)) {
            return finding(BEYOND);
        }
        int many = Array.getLength(sheets[s]);
        if (many > 20) {
            return finding(SIZE);
        }
        int pairs = 0;
        for (int kind = 0; kind <= 5; kind++) {
            for (int wish = 10; wish <= 80; wish++) {
                int[] quick = town.quick(town.drivers.get(driver).turned(kind).wishing(wish), street);
                boolean justSo = true;
                for (int i = 0; i < many; i++) {
                    justSo &= Array.getLong(sheets[s], i) == quick[i];
                }
                pairs += justSo ? 1 : 0;
            }
        }
        return pairs;
    }

    // ---- images

    int image() {
        kept = town.on(0);
        return 1;
    }

    int undo() {
        if (kept == null) {
            return finding(NONE);
        }
        town = kept.on(0);
        return town.drivers.size();
    }

    int tear() {
        int was = kept == null ? 0 : 1;
        kept = null;
        return was;
    }

    int count(int what) {
        return switch (what) {
            case 0 -> town.drivers.size();
            case 1 -> tape.length();
            case 2 -> (int) IntStream.range(0, 60).filter(i -> town.at(i / 20, i % 20).thing == 1).count();
            case 3 -> town.drivers.stream().mapToInt(one -> one.wish).sum();
            default -> finding(BEYOND);
        };
    }

    int status(int which) {
        if (!in(which, -1, 6)) {
            return finding(BEYOND);
        }
        return (int) findings.stream().filter(f -> which == -1 || f == BEYOND - which).count();
    }

    // ---- what these share

    private int finding(int which) {
        findings.add(which);
        return which;
    }

    private static boolean in(int v, int least, int most) {
        return least <= v && v <= most;
    }

    private static boolean isStreet(int street) {
        return in(street, 0, 2);
    }

    private static boolean isStretch(int street, int stretch) {
        return isStreet(street) && in(stretch, 0, 19);
    }

    private boolean isDriver(int driver) {
        return in(driver, 0, town.drivers.size() - 1);
    }

    private IntStream drivers() {
        return IntStream.range(0, town.drivers.size());
    }

    private static int set(IntStream numbers) {
        return numbers.map(i -> 1 << i).sum();
    }

    /** The one for which something is least, of several the least; NONE if there is none. */
    private int least(IntStream some, IntUnaryOperator something) {
        int[] all = some.toArray();
        int[] of = IntStream.of(all).map(something).toArray();
        int least = IntStream.of(of).min().orElse(0);
        for (int i = 0; i < all.length; i++) {
            if (of[i] == least) {
                return all[i];
            }
        }
        return finding(NONE);
    }

    private static void put(Object sheet, int i, long v) {
        if (sheet instanceof byte[] bytes) {
            bytes[i] = (byte) v;
        } else if (sheet instanceof short[] shorts) {
            shorts[i] = (short) v;
        } else if (sheet instanceof long[] longs) {
            longs[i] = v;
        }
    }
}
