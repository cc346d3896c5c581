/** What each kind does with each wish at each thing, against the kinds told anew. */
public final class KindsTest {
    private static final int[] AGES = {0, 1, 19, 20, 21, 22, 998, 999};

    public static void main(String[] args) {
        for (int kind = 0; kind < 6; kind++) {
            for (int wish = 10; wish <= 80; wish++) {
                slows(kind, wish);
                overBumps(kind, wish);
            }
        }
        Due.end();
    }

    private static BumpStreets one(int kind, int wish) {
        BumpStreets x = new BumpStreets();
        x.driver(kind);
        x.set(0, 1, wish);
        return x;
    }

    private static void slows(int kind, int wish) {
        BumpStreets x = one(kind, wish);
        for (int high = 1; high <= 6; high++) {
            x.high(high);
            for (int thing = 1; thing <= 4; thing++) {
                for (int age : AGES) {
                    Due.is("slows of " + kind + " wishing " + wish + " at " + thing, x.slows(0, thing, age),
                        ToldKind.ALL[kind].slowsTo(wish, high, thing, age));
                }
            }
        }
    }

    /** Two bumps, one entered at the wish and one while it still hurries, so that it goes over them unalike. */
    private static void overBumps(int kind, int wish) {
        BumpStreets x = one(kind, wish);
        ToldKind told = ToldKind.ALL[kind];
        x.thing(0, 0, 1);
        x.thing(0, 1, 2);
        x.thing(0, 2, 1);
        for (int high = 1; high <= 6; high++) {
            x.high(high);
            int first = told.slowsTo(wish, high, 1, 0);
            int narrow = Math.min(Math.min(first + told.hurries(), wish), told.slowsTo(wish, high, 2, 0));
            int second = Math.min(Math.min(narrow + told.hurries(), wish), first);
            String who = kind + " wishing " + wish;
            Due.is("quick of " + who + " at the first", x.quick(0, 0, 0), first);
            Due.is("quick of " + who + " between", x.quick(0, 0, 1), narrow);
            Due.is("quick of " + who + " at the second", x.quick(0, 0, 2), second);
            Due.is("shaken by " + who, x.shaken(0, 0), told.shakes(first, high) + told.shakes(second, high));
        }
    }
}
