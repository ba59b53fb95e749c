/** Numbers by chance, but from a seed always the same ones. */
final class Dice {
  private long state;

  Dice(long seed) {
    state = seed;
  }

  /** 0 to n - 1. */
  int below(int n) {
    state = state * 6364136223846793005L + 1442695040888963407L;
    return (int) ((state >>> 33) % n);
  }

  int between(int least, int most) {
    return least + below(most - least + 1);
  }

  boolean oneIn(int n) {
    return below(n) == 0;
  }

  int of(int... choices) {
    return choices[below(choices.length)];
  }
}
