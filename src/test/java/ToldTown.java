import java.util.ArrayList;
import java.util.List;

/** What section 1 of the document tells, but for the tape; a day goes in a copy. */
final class ToldTown {
    static final class Stretch {
        int thing = 0;
        int age = 0;
    }

    static final class Driver {
        final int kind;
        final int wish;
        final int street;

        Driver(int kind, int wish, int street) {
            this.kind = kind;
            this.wish = wish;
            this.street = street;
        }

        Driver turned(int other) {
            return new Driver(other, wish, street);
        }

        Driver wishing(int w) {
            return new Driver(kind, w, street);
        }

        Driver going(int there) {
            return new Driver(kind, wish, there);
        }
    }

    int day = 0;
    int high = 3;
    final List<Driver> drivers = new ArrayList<>();
    private final Stretch[] stretches = new Stretch[60];

    ToldTown() {
        for (int i = 0; i < 60; i++) {
            stretches[i] = new Stretch();
        }
    }

    Stretch at(int street, int stretch) {
        return stretches[street * 20 + stretch];
    }

    void lay(int street, int stretch, int thing) {
        at(street, stretch).thing = thing;
        at(street, stretch).age = 0;
    }

    /** How quick one is on stretches 0, 1, .. of a street. */
    int[] quick(Driver one, int street) {
        int[] quick = new int[20];
        for (int i = 0; i < 20; i++) {
            ToldKind kind = ToldKind.ALL[one.kind];
            quick[i] = i == 0 ? one.wish : Math.min(one.wish, quick[i - 1] + kind.hurries());
            Stretch there = at(street, i);
            if (there.thing != 0) {
                quick[i] = Math.min(quick[i], kind.slowsTo(one.wish, high, there.thing, there.age));
            }
        }
        return quick;
    }

    int takes(Driver one, int street) {
        int tenths = 0;
        for (int v : quick(one, street)) {
            tenths += 1227 / v;
        }
        return tenths;
    }

    int shaken(Driver one, int street) {
        int[] quick = quick(one, street);
        int shaken = 0;
        for (int i = 0; i < 20; i++) {
            shaken += at(street, i).thing == 1 ? ToldKind.ALL[one.kind].shakes(quick[i], high) : 0;
        }
        return shaken;
    }

    int shakenByAll() {
        return drivers.stream().mapToInt(one -> shaken(one, one.street)).sum();
    }

    int takesAll() {
        return drivers.stream().mapToInt(one -> takes(one, one.street)).sum();
    }

    /** The town n days on; this one stays as it is. */
    ToldTown on(int n) {
        ToldTown later = new ToldTown();
        later.day = day;
        later.high = high;
        later.drivers.addAll(drivers);
        for (int i = 0; i < 60; i++) {
            later.stretches[i].thing = stretches[i].thing;
            later.stretches[i].age = stretches[i].age;
        }
        for (int i = 0; i < n; i++) {
            later.dayGoes();
        }
        return later;
    }

    ToldTown with(int street, int stretch, int thing) {
        ToldTown other = on(0);
        other.lay(street, stretch, thing);
        return other;
    }

    ToldTown withHigh(int h) {
        ToldTown other = on(0);
        other.high = h;
        return other;
    }

    private void dayGoes() {
        for (Stretch one : stretches) {
            one.age = one.thing == 4 ? Math.min(999, one.age + 1) : 0;
        }
        drivers.replaceAll(one -> one.going(choice(one)));
        day++;
    }

    private int choice(Driver one) {
        int[] takes = {takes(one, 0), takes(one, 1), takes(one, 2)};
        int least = Math.min(takes[0], Math.min(takes[1], takes[2]));
        if (takes[one.street] == least) {
            return one.street;
        }
        return takes[0] == least ? 0 : takes[1] == least ? 1 : 2;
    }
}
