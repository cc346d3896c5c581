/** Numbers that only look random: the same in every run. */
final class Dice {
    private long seed;

    Dice(long seed) {
        this.seed = seed * 7919 + 17;
    }

    int below(int n) {
        seed = seed * 6364136223846793005L + 1442695040888963407L;
        return (int) ((seed >>> 33) % n);
    }

    boolean oneIn(int n) {
        return below(n) == 0;
    }

    int from(int least, int most) {
        return least + below(most - least + 1);
    }

    int oneOf(int... numbers) {
        return numbers[below(numbers.length)];
    }

    String oneOf(String... words) {
        return words[below(words.length)];
    }
}
