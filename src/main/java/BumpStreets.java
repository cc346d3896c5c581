/**
 * Three streets with bumps, narrowings, signs and paint, and the drivers that
 * choose among them. The promises in DOC.md say what each call answers.
 *
 * All rows are made when the object is made; no call makes another object.
 */
public final class BumpStreets {
    private static final int BEYOND = -1000000001;
    private static final int FULL = -1000000002;
    private static final int KIND = -1000000003;
    private static final int NONE = -1000000004;
    private static final int STATE = -1000000005;
    private static final int MISSING = -1000000006;
    private static final int SIZE = -1000000007;
    private static final int FINDINGS = 7;
    private static final int FINE = 0;

    private static final int STREETS = 3;
    private static final int STRETCHES = 20;
    private static final int MOST_DRIVERS = 8;
    private static final int LAST_DAY = 9999;
    private static final int OLDEST = 999;
    private static final int PAINT_ENDS = 21;
    private static final int MOST_DAYS = 100;
    private static final int MOST_TRIAL_DAYS = 20;

    private static final int NOTHING = 0;
    private static final int BUMP = 1;
    private static final int NARROWING = 2;
    private static final int SIGN = 3;
    private static final int PAINT = 4;

    private static final int DRIVER = 0;
    private static final int BUS = 1;
    private static final int LORRY = 2;
    private static final int LOCAL = 3;
    private static final int AMBULANCE = 4;
    private static final int RACER = 5;
    private static final int KINDS = 6;

    private static final int LEAST_WISH = 10;
    private static final int MOST_WISH = 80;
    private static final int FIRST_WISH = 40;
    private static final int MOST_HIGH = 6;
    private static final int FIRST_HIGH = 3;

    private static final int SHEETS = 4;
    private static final int MOST_NUMBERS = 40;
    private static final int MOST_BYTES = 120;

    private final Town present;
    private final Town kept;
    private final Town trial;
    private final Tape tape;
    private final Sheet[] sheets;
    private final int[] told;
    private boolean isKept;

    public BumpStreets() {
        present = new Town();
        kept = new Town();
        trial = new Town();
        tape = new Tape();
        sheets = new Sheet[SHEETS];
        for (int s = 0; s < SHEETS; s++) {
            sheets[s] = new Sheet();
        }
        told = new int[FINDINGS];
        isKept = false;
    }

    // ---- streets

    public int thing(int street, int stretch, int v) {
        if (!isStretch(street, stretch) || !isWithin(v, NOTHING, PAINT)) {
            return tell(BEYOND);
        }
        int was = present.things[placeOf(street, stretch)];
        present.lay(street, stretch, v);
        return was;
    }

    public int stretch(int street, int stretch, int what) {
        if (!isStretch(street, stretch) || !isWithin(what, 0, 1)) {
            return tell(BEYOND);
        }
        int place = placeOf(street, stretch);
        return what == 0 ? present.things[place] : present.ages[place];
    }

    public int high(int v) {
        if (!isWithin(v, 1, MOST_HIGH)) {
            return tell(BEYOND);
        }
        int was = present.inches;
        present.inches = v;
        return was;
    }

    public int street(int street, int what) {
        if (!isStreet(street)) {
            return tell(BEYOND);
        }
        switch (what) {
            case 0:
                return present.stretchesWithThing(street);
            case 1:
                return present.bumpsIn(street);
            case 2:
                return present.whoGoesIn(street);
            case 3:
                return present.shakingIn(street);
            default:
                return tell(BEYOND);
        }
    }

    public int now(int what) {
        switch (what) {
            case 0:
                return present.day;
            case 1:
                return present.inches;
            case 2:
                return present.shakingOfAll();
            case 3:
                return present.timeOfAll();
            default:
                return tell(BEYOND);
        }
    }

    // ---- drivers

    public int driver(int kind) {
        if (!isKind(kind)) {
            return tell(BEYOND);
        }
        if (present.drivers >= MOST_DRIVERS) {
            return tell(FULL);
        }
        return present.addDriver(kind);
    }

    public int of(int driver, int what) {
        if (!present.hasDriver(driver)) {
            return tell(BEYOND);
        }
        int kind = present.kinds[driver];
        int wish = present.wishes[driver];
        int street = present.goesIn[driver];
        switch (what) {
            case 0:
                return kind;
            case 1:
                return wish;
            case 2:
                return street;
            case 3:
                return Kinds.hurries(kind);
            case 4:
                return present.timeFor(kind, wish, street);
            case 5:
                return present.shakingBy(kind, wish, street);
            default:
                return tell(BEYOND);
        }
    }

    public int set(int driver, int what, int v) {
        if (!present.hasDriver(driver)) {
            return tell(BEYOND);
        }
        if (what == 1 && isWithin(v, LEAST_WISH, MOST_WISH)) {
            int was = present.wishes[driver];
            present.wishes[driver] = v;
            return was;
        }
        if (what == 2 && isStreet(v)) {
            int was = present.goesIn[driver];
            present.goesIn[driver] = v;
            return was;
        }
        return tell(BEYOND);
    }

    public int turn(int driver, int kind) {
        if (!present.hasDriver(driver) || !isKind(kind)) {
            return tell(BEYOND);
        }
        int was = present.kinds[driver];
        present.kinds[driver] = kind;
        return was;
    }

    public int as(int driver, int kind) {
        if (!present.hasDriver(driver) || !isKind(kind)) {
            return tell(BEYOND);
        }
        if (!Kinds.isOf(present.kinds[driver], kind)) {
            return tell(KIND);
        }
        return present.wishes[driver];
    }

    public int slows(int driver, int thing, int age) {
        if (!present.hasDriver(driver) || !isWithin(thing, BUMP, PAINT) || !isWithin(age, 0, OLDEST)) {
            return tell(BEYOND);
        }
        return Kinds.slowsTo(present.kinds[driver], present.wishes[driver], thing, present.inches, age);
    }

    public int quick(int driver, int street, int stretch) {
        if (!present.hasDriver(driver) || !isStretch(street, stretch)) {
            return tell(BEYOND);
        }
        return present.paceOn(present.kinds[driver], present.wishes[driver], street, stretch);
    }

    public int takes(int driver, int street) {
        if (!present.hasDriver(driver) || !isStreet(street)) {
            return tell(BEYOND);
        }
        return present.timeFor(present.kinds[driver], present.wishes[driver], street);
    }

    public int shaken(int driver, int street) {
        if (!present.hasDriver(driver) || !isStreet(street)) {
            return tell(BEYOND);
        }
        return present.shakingBy(present.kinds[driver], present.wishes[driver], street);
    }

    // ---- days

    public int days(int n) {
        if (!isWithin(n, 1, MOST_DAYS)) {
            return tell(BEYOND);
        }
        if (present.day + n > LAST_DAY) {
            return tell(STATE);
        }
        present.letDaysGo(n);
        return present.shakingOfAll();
    }

    public int on(int driver, int n) {
        if (!present.hasDriver(driver) || !isWithin(n, 0, MOST_DAYS)) {
            return tell(BEYOND);
        }
        trial.becomeLike(present);
        trial.letDaysGo(n);
        return trial.goesIn[driver];
    }

    public int then(int n, int what) {
        if (!isWithin(n, 0, MOST_DAYS) || !isWithin(what, 0, 1)) {
            return tell(BEYOND);
        }
        trial.becomeLike(present);
        trial.letDaysGo(n);
        return what == 0 ? trial.shakingOfAll() : trial.timeOfAll();
    }

    public int leaves(int driver) {
        if (!present.hasDriver(driver)) {
            return tell(BEYOND);
        }
        trial.becomeLike(present);
        for (int n = 1; n <= MOST_DAYS; n++) {
            trial.letDayGo(n == 1);
            if (trial.goesIn[driver] != present.goesIn[driver]) {
                return n;
            }
        }
        return tell(NONE);
    }

    // ---- what is best

    public int tame(int driver, int street) {
        if (!present.hasDriver(driver) || !isStreet(street)) {
            return tell(BEYOND);
        }
        int best = -1;
        int bestPace = 0;
        trial.becomeLike(present);
        for (int i = 0; i < STRETCHES; i++) {
            if (present.things[placeOf(street, i)] == NOTHING) {
                trial.lay(street, i, BUMP);
                int pace = trial.topPace(present.kinds[driver], present.wishes[driver], street);
                trial.lay(street, i, NOTHING);
                if (best < 0 || pace < bestPace) {
                    best = i;
                    bestPace = pace;
                }
            }
        }
        return best < 0 ? tell(NONE) : best;
    }

    public int clear(int street, int n) {
        if (!isStreet(street) || !isWithin(n, 0, MOST_TRIAL_DAYS)) {
            return tell(BEYOND);
        }
        int best = -1;
        int bestShaking = 0;
        for (int i = 0; i < STRETCHES; i++) {
            if (present.things[placeOf(street, i)] != NOTHING) {
                trial.becomeLike(present);
                trial.lay(street, i, NOTHING);
                trial.letDaysGo(n);
                int shaking = trial.shakingOfAll();
                if (best < 0 || shaking < bestShaking) {
                    best = i;
                    bestShaking = shaking;
                }
            }
        }
        return best < 0 ? tell(NONE) : best;
    }

    public int lower(int n, int v) {
        if (!isWithin(n, 0, MOST_TRIAL_DAYS) || !isWithin(v, 0, 99999)) {
            return tell(BEYOND);
        }
        // From above and one by one: higher bumps may well shake less.
        for (int inches = MOST_HIGH; inches >= 1; inches--) {
            trial.becomeLike(present);
            trial.inches = inches;
            trial.letDaysGo(n);
            if (trial.shakingOfAll() <= v) {
                return inches;
            }
        }
        return tell(NONE);
    }

    public int kind(int driver, int street) {
        if (!present.hasDriver(driver) || !isStreet(street)) {
            return tell(BEYOND);
        }
        int best = 0;
        int bestTime = present.timeFor(0, present.wishes[driver], street);
        for (int kind = 1; kind < KINDS; kind++) {
            int time = present.timeFor(kind, present.wishes[driver], street);
            if (time < bestTime) {
                best = kind;
                bestTime = time;
            }
        }
        return best;
    }

    public int wish(int driver, int street, int t) {
        if (!present.hasDriver(driver) || !isStreet(street) || !isWithin(t, 0, 9999)) {
            return tell(BEYOND);
        }
        int kind = present.kinds[driver];
        int best = -1;
        int bestShaking = 0;
        for (int wish = LEAST_WISH; wish <= MOST_WISH; wish++) {
            if (present.timeFor(kind, wish, street) <= t) {
                int shaking = present.shakingBy(kind, wish, street);
                if (best < 0 || shaking < bestShaking) {
                    best = wish;
                    bestShaking = shaking;
                }
            }
        }
        return best < 0 ? tell(NONE) : best;
    }

    public int drives(int stretch) {
        if (!isWithin(stretch, 0, STRETCHES - 1)) {
            return tell(BEYOND);
        }
        int best = 0;
        int most = -1;
        for (int street = 0; street < STREETS; street++) {
            trial.becomeLike(present);
            trial.lay(street, stretch, BUMP);
            trial.letDaysGo(1);
            int gone = trial.howManyGoElsewhere(present);
            if (gone > most) {
                best = street;
                most = gone;
            }
        }
        return best;
    }

    public int slowest() {
        int best = -1;
        int longest = 0;
        for (int d = 0; d < present.drivers; d++) {
            int time = present.timeInAllStreets(d);
            if (best < 0 || time > longest) {
                best = d;
                longest = time;
            }
        }
        return best < 0 ? tell(NONE) : best;
    }

    // ---- the text

    public int feed(int bytes, int n) {
        if (!isWithin(n, 1, 4)) {
            return tell(BEYOND);
        }
        if (tape.length + n > MOST_BYTES) {
            return tell(FULL);
        }
        tape.append(bytes, n);
        return tape.length;
    }

    public int wipe() {
        int had = tape.length;
        tape.length = 0;
        return had;
    }

    public int town() {
        trial.becomeLike(present);
        int items = tape.tellInto(trial);
        tape.length = 0;
        if (items >= 0) {
            present.becomeLike(trial);
        }
        return items;
    }

    // ---- sheets

    public int sheet(int s, int bits, int n) {
        if (!isWithin(s, 0, SHEETS - 1) || (bits != 0 && bits != 8 && bits != 16 && bits != 64)) {
            return tell(BEYOND);
        }
        if (n < 0) {
            return tell(SIZE);
        }
        if (n > MOST_NUMBERS) {
            return tell(BEYOND);
        }
        sheets[s].become(bits, bits == 0 ? 0 : n);
        return sheets[s].size;
    }

    public long write(int s, int i, long v) {
        int fault = sheetFault(s);
        if (fault != FINE) {
            return tell(fault);
        }
        if (i < 0 || i >= sheets[s].size) {
            return tell(BEYOND);
        }
        long was = sheets[s].numbers[i];
        sheets[s].put(i, v);
        return was;
    }

    public int copy(int s, int from, int t, int to, int n) {
        if (!isWithin(s, 0, SHEETS - 1) || !isWithin(t, 0, SHEETS - 1)) {
            return tell(BEYOND);
        }
        Sheet source = sheets[s];
        Sheet goal = sheets[t];
        if (source.bits == 0 || goal.bits == 0) {
            return tell(MISSING);
        }
        if (source.bits != goal.bits) {
            return tell(KIND);
        }
        if (!source.hasPart(from, n) || !goal.hasPart(to, n)) {
            return tell(BEYOND);
        }
        System.arraycopy(source.numbers, from, goal.numbers, to, n);
        return n;
    }

    public int lays(int s, int street) {
        int fault = sheetFault(s);
        if (fault != FINE) {
            return tell(fault);
        }
        if (!isStreet(street)) {
            return tell(BEYOND);
        }
        int came = 0;
        int last = Math.min(sheets[s].size, STRETCHES);
        for (int i = 0; i < last; i++) {
            long v = sheets[s].numbers[i];
            if (v >= NOTHING && v <= PAINT) {
                present.lay(street, i, (int) v);
                came++;
            }
        }
        return came;
    }

    public int book(int s, int driver, int street) {
        int fault = sheetFault(s);
        if (fault != FINE) {
            return tell(fault);
        }
        if (!present.hasDriver(driver) || !isStreet(street)) {
            return tell(BEYOND);
        }
        int many = Math.min(sheets[s].size, STRETCHES);
        for (int i = 0; i < many; i++) {
            sheets[s].put(i, present.paceOn(present.kinds[driver], present.wishes[driver], street, i));
        }
        return many;
    }

    public int read(int s, int driver, int street) {
        int fault = sheetFault(s);
        if (fault != FINE) {
            return tell(fault);
        }
        if (!present.hasDriver(driver) || !isStreet(street)) {
            return tell(BEYOND);
        }
        if (sheets[s].size > STRETCHES) {
            return tell(SIZE);
        }
        int pairs = 0;
        for (int kind = 0; kind < KINDS; kind++) {
            for (int wish = LEAST_WISH; wish <= MOST_WISH; wish++) {
                if (present.goesJustAs(sheets[s], kind, wish, street)) {
                    pairs++;
                }
            }
        }
        return pairs;
    }

    // ---- images

    public int image() {
        kept.becomeLike(present);
        isKept = true;
        return 1;
    }

    public int undo() {
        if (!isKept) {
            return tell(NONE);
        }
        present.becomeLike(kept);
        return present.drivers;
    }

    public int tear() {
        int was = isKept ? 1 : 0;
        isKept = false;
        return was;
    }

    public int count(int what) {
        switch (what) {
            case 0:
                return present.drivers;
            case 1:
                return tape.length;
            case 2:
                return present.bumpsInAll();
            case 3:
                return present.wishesOfAll();
            default:
                return tell(BEYOND);
        }
    }

    public int status(int which) {
        if (!isWithin(which, -1, FINDINGS - 1)) {
            return tell(BEYOND);
        }
        if (which >= 0) {
            return told[which];
        }
        int all = 0;
        for (int i = 0; i < FINDINGS; i++) {
            all += told[i];
        }
        return all;
    }

    // ---- what the calls share

    private int tell(int finding) {
        int which = BEYOND - finding;
        if (isWithin(which, 0, FINDINGS - 1)) {
            told[which]++;
        }
        return finding;
    }

    private int sheetFault(int s) {
        if (!isWithin(s, 0, SHEETS - 1)) {
            return BEYOND;
        }
        return sheets[s].bits == 0 ? MISSING : FINE;
    }

    private static boolean isWithin(int v, int least, int most) {
        return v >= least && v <= most;
    }

    private static boolean isStreet(int street) {
        return street >= 0 && street < STREETS;
    }

    private static boolean isStretch(int street, int stretch) {
        return isStreet(street) && stretch >= 0 && stretch < STRETCHES;
    }

    private static boolean isKind(int kind) {
        return kind >= 0 && kind < KINDS;
    }

    private static int placeOf(int street, int stretch) {
        return street * STRETCHES + stretch;
    }

    /** What the kinds of drivers do, and which kind is under which. */
    private static final class Kinds {
        /** Which kind each is under; a driver is under none. */
        private static int above(int kind) {
            switch (kind) {
                case BUS:
                case LORRY:
                case LOCAL:
                    return DRIVER;
                case AMBULANCE:
                    return BUS;
                case RACER:
                    return LOCAL;
                default:
                    return -1;
            }
        }

        static boolean isOf(int kind, int other) {
            int k = kind;
            for (int level = 0; level < KINDS && k >= 0; level++) {
                if (k == other) {
                    return true;
                }
                k = above(k);
            }
            return false;
        }

        static int slowsTo(int kind, int wish, int thing, int inches, int age) {
            boolean isLocal = kind == LOCAL || kind == RACER;
            int pace = wish;
            switch (thing) {
                case BUMP:
                    pace = overBump(kind, wish, inches);
                    break;
                case NARROWING:
                    pace = kind == AMBULANCE ? wish : wish / 2;
                    break;
                case SIGN:
                    pace = isLocal ? wish : wish - 5;
                    break;
                case PAINT:
                    pace = isLocal || age >= PAINT_ENDS ? wish : wish * 3 / 4;
                    break;
                default:
                    break;
            }
            return kind == RACER ? Math.min(pace + 5, wish) : pace;
        }

        /** For a racer as its local self: the racer's 5 more come to this later. */
        private static int overBump(int kind, int wish, int inches) {
            if (kind == LORRY && inches >= 4) {
                return 8;
            }
            boolean isBus = kind == BUS || kind == AMBULANCE;
            int pace = wish - (isBus ? 4 : 8) * inches;
            return pace < 5 ? 5 : pace;
        }

        static int hurries(int kind) {
            switch (kind) {
                case BUS:
                case LORRY:
                    return 6;
                case RACER:
                    return 22;
                default:
                    return 12;
            }
        }

        static int shakes(int kind, int pace, int inches) {
            int asDriver = pace * inches / 10;
            switch (kind) {
                case BUS:
                case AMBULANCE:
                    return asDriver + inches;
                case LORRY:
                    return 2 * asDriver;
                case RACER:
                    return asDriver + 1;
                default:
                    return asDriver;
            }
        }
    }

    /** All that an image keeps: the streets, the drivers and the day. */
    private static final class Town {
        private static final int STRETCH_TIME = 1227;

        int day;
        int inches;
        int drivers;
        final int[] things;
        final int[] ages;
        final int[] kinds;
        final int[] wishes;
        final int[] goesIn;

        Town() {
            day = 0;
            inches = FIRST_HIGH;
            drivers = 0;
            things = new int[STREETS * STRETCHES];
            ages = new int[STREETS * STRETCHES];
            kinds = new int[MOST_DRIVERS];
            wishes = new int[MOST_DRIVERS];
            goesIn = new int[MOST_DRIVERS];
        }

        void becomeLike(Town other) {
            day = other.day;
            inches = other.inches;
            drivers = other.drivers;
            System.arraycopy(other.things, 0, things, 0, STREETS * STRETCHES);
            System.arraycopy(other.ages, 0, ages, 0, STREETS * STRETCHES);
            System.arraycopy(other.kinds, 0, kinds, 0, MOST_DRIVERS);
            System.arraycopy(other.wishes, 0, wishes, 0, MOST_DRIVERS);
            System.arraycopy(other.goesIn, 0, goesIn, 0, MOST_DRIVERS);
        }

        boolean hasDriver(int driver) {
            return driver >= 0 && driver < drivers;
        }

        /** Only where there is room for one more. */
        int addDriver(int kind) {
            int number = drivers;
            if (number < MOST_DRIVERS) {
                kinds[number] = kind;
                wishes[number] = FIRST_WISH;
                goesIn[number] = 0;
                drivers = number + 1;
            }
            return number;
        }

        void lay(int street, int stretch, int v) {
            int place = placeOf(street, stretch);
            things[place] = v;
            ages[place] = 0;
        }

        int stretchesWithThing(int street) {
            int set = 0;
            for (int i = 0; i < STRETCHES; i++) {
                if (things[placeOf(street, i)] != NOTHING) {
                    set |= 1 << i;
                }
            }
            return set;
        }

        int bumpsIn(int street) {
            int bumps = 0;
            for (int i = 0; i < STRETCHES; i++) {
                if (things[placeOf(street, i)] == BUMP) {
                    bumps++;
                }
            }
            return bumps;
        }

        int bumpsInAll() {
            int bumps = 0;
            for (int street = 0; street < STREETS; street++) {
                bumps += bumpsIn(street);
            }
            return bumps;
        }

        int whoGoesIn(int street) {
            int set = 0;
            for (int d = 0; d < drivers; d++) {
                if (goesIn[d] == street) {
                    set |= 1 << d;
                }
            }
            return set;
        }

        int wishesOfAll() {
            int sum = 0;
            for (int d = 0; d < drivers; d++) {
                sum += wishes[d];
            }
            return sum;
        }

        /** How quick one is at a place, by how quick it was before; a street is entered at one's wish. */
        private int nextPace(int kind, int wish, int place, int before) {
            int pace = before + Kinds.hurries(kind);
            if (pace > wish) {
                pace = wish;
            }
            if (things[place] == NOTHING) {
                return pace;
            }
            int slowed = Kinds.slowsTo(kind, wish, things[place], inches, ages[place]);
            return slowed < pace ? slowed : pace;
        }

        int paceOn(int kind, int wish, int street, int stretch) {
            int pace = wish;
            for (int i = 0; i <= stretch; i++) {
                pace = nextPace(kind, wish, placeOf(street, i), pace);
            }
            return pace;
        }

        int topPace(int kind, int wish, int street) {
            int pace = wish;
            int top = 0;
            for (int i = 0; i < STRETCHES; i++) {
                pace = nextPace(kind, wish, placeOf(street, i), pace);
                top = Math.max(top, pace);
            }
            return top;
        }

        int timeFor(int kind, int wish, int street) {
            int pace = wish;
            int time = 0;
            for (int i = 0; i < STRETCHES; i++) {
                pace = nextPace(kind, wish, placeOf(street, i), pace);
                if (pace > 0) {
                    time += STRETCH_TIME / pace;
                }
            }
            return time;
        }

        int shakingBy(int kind, int wish, int street) {
            int pace = wish;
            int shaking = 0;
            for (int i = 0; i < STRETCHES; i++) {
                pace = nextPace(kind, wish, placeOf(street, i), pace);
                if (things[placeOf(street, i)] == BUMP) {
                    shaking += Kinds.shakes(kind, pace, inches);
                }
            }
            return shaking;
        }

        boolean goesJustAs(Sheet told, int kind, int wish, int street) {
            int pace = wish;
            int many = Math.min(told.size, STRETCHES);
            for (int i = 0; i < many; i++) {
                pace = nextPace(kind, wish, placeOf(street, i), pace);
                if (told.numbers[i] != pace) {
                    return false;
                }
            }
            return true;
        }

        int shakingIn(int street) {
            int shaking = 0;
            for (int d = 0; d < drivers; d++) {
                if (goesIn[d] == street) {
                    shaking += shakingBy(kinds[d], wishes[d], street);
                }
            }
            return shaking;
        }

        int shakingOfAll() {
            int shaking = 0;
            for (int d = 0; d < drivers; d++) {
                shaking += shakingBy(kinds[d], wishes[d], goesIn[d]);
            }
            return shaking;
        }

        int timeOfAll() {
            int time = 0;
            for (int d = 0; d < drivers; d++) {
                time += timeFor(kinds[d], wishes[d], goesIn[d]);
            }
            return time;
        }

        int timeInAllStreets(int driver) {
            int time = 0;
            for (int street = 0; street < STREETS; street++) {
                time += timeFor(kinds[driver], wishes[driver], street);
            }
            return time;
        }

        int howManyGoElsewhere(Town before) {
            int many = 0;
            for (int d = 0; d < drivers; d++) {
                if (goesIn[d] != before.goesIn[d]) {
                    many++;
                }
            }
            return many;
        }

        void letDaysGo(int n) {
            for (int i = 0; i < n; i++) {
                letDayGo(i == 0);
            }
        }

        /**
         * After the first of several days all go where it takes them least, and
         * stay until a paint stops working: only then is there a new choice.
         */
        void letDayGo(boolean isFirst) {
            boolean paintEnded = agePaint();
            if (isFirst || paintEnded) {
                for (int d = 0; d < drivers; d++) {
                    chooseStreet(d);
                }
            }
            day++;
        }

        private boolean agePaint() {
            boolean paintEnded = false;
            for (int place = 0; place < STREETS * STRETCHES; place++) {
                if (things[place] == PAINT && ages[place] < OLDEST) {
                    ages[place]++;
                    if (ages[place] == PAINT_ENDS) {
                        paintEnded = true;
                    }
                }
            }
            return paintEnded;
        }

        private void chooseStreet(int driver) {
            int kind = kinds[driver];
            int wish = wishes[driver];
            int best = goesIn[driver];
            int bestTime = timeFor(kind, wish, best);
            for (int street = 0; street < STREETS; street++) {
                int time = timeFor(kind, wish, street);
                if (time < bestTime) {
                    best = street;
                    bestTime = time;
                }
            }
            goesIn[driver] = best;
        }
    }

    /** A row of numbers of 8, 16 or 64 bits; of 0 bits while it is missing. */
    private static final class Sheet {
        int bits;
        int size;
        final long[] numbers;

        Sheet() {
            bits = 0;
            size = 0;
            numbers = new long[MOST_NUMBERS];
        }

        void become(int newBits, int newSize) {
            bits = newBits;
            size = newSize;
            for (int i = 0; i < MOST_NUMBERS; i++) {
                numbers[i] = 0L;
            }
        }

        /** Numbers of fewer bits are held with their sign, as Java's byte and short are. */
        void put(int i, long v) {
            if (bits == 8) {
                numbers[i] = (byte) v;
            } else if (bits == 16) {
                numbers[i] = (short) v;
            } else {
                numbers[i] = v;
            }
        }

        /** Compared by a difference, since from and n together may be too much for an int. */
        boolean hasPart(int from, int n) {
            return from >= 0 && n >= 0 && n <= size && from <= size - n;
        }
    }

    /** The tape's bytes, and the reader of the text that they are. */
    private static final class Tape {
        private static final int END = 0;
        private static final int WORD = 1;
        private static final int NUMBER = 2;
        private static final int SEMICOLON = 3;
        private static final int NO_TOKEN = 4;
        private static final int MOST_NUMBER = 999;

        final int[] bytes;
        int length;
        // The token at hand: what it is, from where to where, and a number's value.
        private int token;
        private int start;
        private int end;
        private int value;

        Tape() {
            bytes = new int[MOST_BYTES];
            length = 0;
        }

        void append(int number, int n) {
            for (int i = n - 1; i >= 0 && length < MOST_BYTES; i--) {
                bytes[length] = (number >>> (8 * i)) & 255;
                length++;
            }
        }

        /** How many items came to a town, or -1 less the place of the fault. */
        int tellInto(Town town) {
            end = 0;
            nextToken();
            for (int items = 1; items <= MOST_BYTES; items++) {
                if (!takeItem(town)) {
                    return -1 - start;
                }
                if (token == END) {
                    return items;
                }
                if (token != SEMICOLON) {
                    return -1 - start;
                }
                nextToken();
            }
            return -1 - start;
        }

        /** Where this or what it calls answers false, the token at hand is the one that can't stand there. */
        private boolean takeItem(Town town) {
            if (token != WORD) {
                return false;
            }
            int kind = kindNamed();
            if (kind >= 0) {
                return takeDriver(town, kind);
            }
            int thing = thingNamed();
            if (thing >= 0) {
                return takeThing(town, thing);
            }
            if (!isWord("high")) {
                return false;
            }
            nextToken();
            if (!isNumber(1, MOST_HIGH)) {
                return false;
            }
            town.inches = value;
            nextToken();
            return true;
        }

        private boolean takeDriver(Town town, int kind) {
            if (town.drivers >= MOST_DRIVERS) {
                return false;
            }
            int driver = town.addDriver(kind);
            nextToken();
            if (isWord("wish")) {
                nextToken();
                if (!isNumber(LEAST_WISH, MOST_WISH)) {
                    return false;
                }
                town.wishes[driver] = value;
                nextToken();
            }
            if (isWord("in")) {
                nextToken();
                if (!isNumber(0, STREETS - 1)) {
                    return false;
                }
                town.goesIn[driver] = value;
                nextToken();
            }
            return true;
        }

        private boolean takeThing(Town town, int thing) {
            nextToken();
            if (!isNumber(0, STREETS - 1)) {
                return false;
            }
            int street = value;
            nextToken();
            if (!isNumber(0, STRETCHES - 1)) {
                return false;
            }
            town.lay(street, value, thing);
            nextToken();
            return true;
        }

        private boolean isNumber(int least, int most) {
            return token == NUMBER && value >= least && value <= most;
        }

        private int kindNamed() {
            if (isWord("driver")) {
                return DRIVER;
            }
            if (isWord("bus")) {
                return BUS;
            }
            if (isWord("lorry")) {
                return LORRY;
            }
            if (isWord("local")) {
                return LOCAL;
            }
            if (isWord("ambulance")) {
                return AMBULANCE;
            }
            return isWord("racer") ? RACER : -1;
        }

        private int thingNamed() {
            if (isWord("clear")) {
                return NOTHING;
            }
            if (isWord("bump")) {
                return BUMP;
            }
            if (isWord("narrow")) {
                return NARROWING;
            }
            if (isWord("sign")) {
                return SIGN;
            }
            return isWord("paint") ? PAINT : -1;
        }

        private boolean isWord(String name) {
            if (token != WORD || end - start != name.length()) {
                return false;
            }
            for (int i = 0; i < name.length(); i++) {
                if (bytes[start + i] != name.charAt(i)) {
                    return false;
                }
            }
            return true;
        }

        private void nextToken() {
            start = end;
            while (start < length && bytes[start] == ' ') {
                start++;
            }
            end = start;
            value = 0;
            if (start >= length) {
                token = END;
            } else if (isLetter(bytes[start])) {
                token = WORD;
                while (end < length && isLetter(bytes[end])) {
                    end++;
                }
            } else if (isDigit(bytes[start])) {
                token = NUMBER;
                readNumber();
            } else {
                token = bytes[start] == ';' ? SEMICOLON : NO_TOKEN;
                end = start + 1;
            }
        }

        /** What is above 999 is held just above it: it may stand nowhere, and can't overflow. */
        private void readNumber() {
            while (end < length && isDigit(bytes[end])) {
                value = Math.min(value * 10 + bytes[end] - '0', MOST_NUMBER + 1);
                end++;
            }
        }

        private static boolean isLetter(int b) {
            return b >= 'a' && b <= 'z';
        }

        private static boolean isDigit(int b) {
            return b >= '0' && b <= '9';
        }
    }
}
