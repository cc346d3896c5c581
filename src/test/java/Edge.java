import java.util.function.Supplier;
import java.util.function.ToLongFunction;

/**
 * Asks for the two sides of a boundary. What is refused changes nothing but
 * status(), and there only the one finding; what is taken tells none.
 *
 * Each object here is used for fewer than 512 calls.
 */
final class Edge {
    interface WithNumber {
        long ask(BumpStreets x, int v);
    }

    private Edge() {
    }

    static void refused(String sentence, Supplier<BumpStreets> scene, long finding, ToLongFunction<BumpStreets> call) {
        BumpStreets x = scene.get();
        int[] before = findings(x);
        Due.is(sentence, call.applyAsLong(x), finding);
        int[] after = findings(x);
        for (int which = -1; which <= 6; which++) {
            int more = which == -1 || which == Due.BEYOND - finding ? 1 : 0;
            Due.is(sentence + ": status(" + which + ")", after[which + 1], before[which + 1] + more);
        }
        Due.is(sentence + ": nothing else changes", Whole.of(x).equals(Whole.of(scene.get())) ? 1 : 0, 1);
    }

    static void taken(String sentence, Supplier<BumpStreets> scene, long due, ToLongFunction<BumpStreets> call) {
        BumpStreets x = scene.get();
        int before = x.status(-1);
        Due.is(sentence, call.applyAsLong(x), due);
        Due.is(sentence + ": no finding", x.status(-1), before);
    }

    /** An answer that is no finding and changes nothing at all. */
    static void onlyTold(String sentence, Supplier<BumpStreets> scene, long due, ToLongFunction<BumpStreets> call) {
        taken(sentence, scene, due, call);
        BumpStreets x = scene.get();
        call.applyAsLong(x);
        Due.is(sentence + ": nothing changes", Whole.of(x).equals(Whole.of(scene.get())) ? 1 : 0, 1);
    }

    /** From least to most is taken, one less and one more are BEYOND, and so are the ends of int. */
    static void range(String sentence, Supplier<BumpStreets> scene, int least, int most, WithNumber call) {
        int[] outside = {Integer.MIN_VALUE, least - 1, most + 1, Integer.MAX_VALUE};
        for (int v : outside) {
            refused(sentence + " " + v, scene, Due.BEYOND, x -> call.ask(x, v));
        }
        for (int v : new int[] {least, most}) {
            BumpStreets x = scene.get();
            int before = x.status(-1);
            Due.is(sentence + " " + v + " is taken", call.ask(x, v) > -1000000000L ? 1 : 0, 1);
            Due.is(sentence + " " + v + ": no finding", x.status(-1), before);
        }
    }

    /** Which numbers are drivers: none, one, some, and eight of them. */
    static void drivers(String sentence, WithNumber call) {
        refused(sentence + " 0 of none", Scenes::empty, Due.BEYOND, x -> call.ask(x, 0));
        range(sentence + " of one", Scenes::one, 0, 0, call);
        range(sentence + " of three", Scenes::busy, 0, 2, call);
        range(sentence + " of eight", Scenes::crowded, 0, 7, call);
    }

    private static int[] findings(BumpStreets x) {
        int[] all = new int[8];
        for (int which = -1; which <= 6; which++) {
            all[which + 1] = x.status(which);
        }
        return all;
    }
}
