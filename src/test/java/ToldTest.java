/**
 * Runs of 512 calls on a new object, with ordinary, with bordering and with
 * wild numbers: each answer is the one that the document told anew gives.
 */
public final class ToldTest {
    private static final int[] WILD = {
        Integer.MIN_VALUE, Integer.MAX_VALUE, -1000000001, -100, -2, -1, 0, 1, 2, 3, 4, 5, 6, 7, 8, 9, 19, 20, 21,
        39, 40, 41, 64, 80, 81, 99, 100, 101, 120, 255, 256, 999, 1000, 9999, 10000, 99999, 100000, 1 << 30,
    };
    /** Each call with what its numbers are; those that build a town stand more than once. */
    private static final String[] CALLS = {
        "thing street stretch thing", "thing street stretch thing", "thing street stretch thing",
        "thing street stretch thing", "thing street stretch thing", "stretch street stretch what2", "high inches",
        "street street what4", "now what4", "driver kind", "driver kind", "of driver what6", "of driver what6",
        "set driver wish", "set driver wish", "set driver street", "turn driver kind", "as driver kind",
        "slows driver thing age", "quick driver street stretch", "takes driver street", "shaken driver street",
        "days some", "days some", "on driver days", "then days what2", "leaves driver", "tame driver street",
        "clear street fewDays", "lower fewDays shaken", "kind driver street", "wish driver street tenths",
        "drives stretch", "slowest", "feed any few", "wipe", "town", "sheet sheet bits size", "sheet sheet bits size",
        "write sheet place long", "write sheet place long", "write sheet place thing",
        "copy sheet place sheet place few", "lays sheet street", "book sheet driver street", "read sheet driver street",
        "image", "undo", "tear", "count what4", "status which",
    };

    public static void main(String[] args) {
        for (int seed = 0; seed < 600; seed++) {
            run(seed);
        }
        Due.end();
    }

    private static void run(int seed) {
        Dice dice = new Dice(seed);
        Pair both = new Pair("run " + seed);
        // How often a number is wild, how often a street is paved at once, and how often a town is told in a text.
        int wild = dice.oneOf(8, 40, 1000);
        int paved = dice.oneOf(20, 60, 1000);
        int texts = dice.oneOf(10, 40, 1000);
        if (dice.oneIn(20)) {
            goNearLastDay(both);
        }
        while (both.callsLeft() > 0) {
            if (dice.oneIn(paved)) {
                pave(both, dice);
            } else if (dice.oneIn(texts)) {
                both.tell(text(dice));
            } else if (dice.oneIn(300)) {
                fillTape(both, dice);
            } else {
                ask(both, dice, wild);
            }
        }
    }

    /** One random call. */
    private static void ask(Pair both, Dice dice, int wild) {
        String[] parts = dice.oneOf(CALLS).split(" ");
        long[] numbers = new long[Pair.numbersOf(parts[0])];
        if (parts[0].equals("set")) {
            boolean isWish = parts[2].equals("wish");
            numbers[0] = number(dice, "driver", wild);
            numbers[1] = dice.oneIn(wild) ? dice.oneOf(WILD) : isWish ? 1 : 2;
            numbers[2] = number(dice, parts[2], wild);
        } else {
            for (int i = 0; i < numbers.length; i++) {
                numbers[i] = number(dice, parts[i + 1], wild);
            }
        }
        both.ask(parts[0], numbers);
    }

    private static long number(Dice dice, String what, int wild) {
        if (dice.oneIn(wild)) {
            return dice.oneOf(WILD);
        }
        return switch (what) {
            case "street" -> dice.below(3);
            case "stretch" -> dice.below(20);
            case "thing" -> dice.below(5);
            case "kind" -> dice.below(6);
            case "inches" -> dice.from(1, 6);
            case "driver" -> dice.below(dice.oneOf(2, 4, 8));
            case "wish" -> dice.from(10, 80);
            case "age" -> dice.oneOf(0, 1, 19, 20, 21, 22, 998, 999);
            case "what2" -> dice.below(2);
            case "what4" -> dice.below(4);
            case "what6" -> dice.below(6);
            case "some" -> dice.oneOf(1, 1, 2, 5, 19, 20, 21, dice.from(1, 100));
            case "days" -> dice.oneOf(0, 1, 2, 19, 20, 21, 22, dice.from(0, 100));
            case "fewDays" -> dice.oneOf(0, 1, 19, 20, dice.from(0, 20));
            case "shaken" -> dice.below(dice.oneOf(10, 100, 1000));
            case "tenths" -> dice.from(250, dice.oneOf(700, 1500, 4000));
            case "any" -> dice.below(1 << 30) * 4L + dice.below(4);
            case "few" -> dice.below(6);
            case "sheet" -> dice.below(4);
            case "bits" -> dice.oneOf(0, 8, 8, 16, 64, 64);
            case "size" -> dice.oneOf(0, 1, 5, 19, 20, 21, 39, 40, dice.below(41));
            case "place" -> dice.below(dice.oneOf(4, 20, 41));
            case "long" -> ((long) dice.below(1 << 30) << 34 ^ (long) dice.below(1 << 30) << 8) + dice.from(-300, 300);
            case "which" -> dice.from(-1, 6);
            default -> throw new IllegalStateException(what);
        };
    }

    /** A street full of things, or nearly: by a sheet. */
    private static void pave(Pair both, Dice dice) {
        int often = dice.oneOf(1, 2, 4);
        int s = dice.below(4);
        both.ask("sheet", s, dice.oneOf(8, 16, 64), 20);
        for (int i = 0; i < 20; i++) {
            both.ask("write", s, i, dice.oneIn(often) ? dice.from(1, 4) : 0);
        }
        both.ask("lays", s, dice.below(3));
    }

    private static void goNearLastDay(Pair both) {
        for (int i = 0; i < 99; i++) {
            both.ask("days", 100);
        }
    }

    /** Blanks nearly to the end, then some bytes at a time, past it. */
    private static void fillTape(Pair both, Dice dice) {
        both.ask("wipe");
        for (int i = 0; i < 28; i++) {
            both.ask("feed", 0x20202020, 4);
        }
        both.ask("feed", dice.oneOf(0x62757320, 0x2020203b, 0x78787878), dice.from(1, 4));
        for (int i = 0; i < 6; i++) {
            both.ask("feed", dice.oneOf(0x20202020, 0x68696768, 0x20312020), dice.from(1, 4));
        }
        both.ask("town");
    }

    private static String text(Dice dice) {
        StringBuilder all = new StringBuilder(item(dice));
        for (int more = dice.below(7); more > 0; more--) {
            all.append(blanks(dice)).append(';').append(blanks(dice)).append(item(dice));
        }
        if (dice.oneIn(3)) {
            int place = dice.below(all.length());
            all.setCharAt(place, (char) dice.oneOf(' ', ';', '0', '9', 'a', 'z', 'n', '`', '{', '/', ':', 0, 255, 'A', '\n'));
        }
        if (dice.oneIn(5)) {
            all.setLength(dice.below(all.length() + 1));
        }
        return all.toString();
    }

    private static String item(Dice dice) {
        if (dice.oneIn(4)) {
            return "high " + dice.below(8);
        }
        if (dice.oneIn(2)) {
            return dice.oneOf("bump ", "narrow ", "sign ", "paint ", "clear ", "hump ")
                + dice.oneOf(0, 1, 2, 2, 1, 0, 3) + " " + dice.oneOf(dice.below(20), dice.below(20), dice.below(22));
        }
        String kind = dice.oneOf("driver", "bus", "lorry", "local", "ambulance", "racer");
        String wish = dice.oneIn(2) ? " wish " + dice.oneOf(dice.from(10, 80), dice.from(10, 80), dice.below(100)) : "";
        String in = dice.oneIn(2) ? " in " + dice.oneOf(0, 1, 2, 2, 1, 0, 3) : "";
        return kind + (dice.oneIn(20) ? in + wish : wish + in);
    }

    private static String blanks(Dice dice) {
        return dice.oneOf("", "", " ", "  ");
    }
}
