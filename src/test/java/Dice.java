/** The document's draws, for tests that need a certain one. */
final class Dice {
  private Dice() { }

  static int next(int z) { return z * 1103515245 + 12345; }

  static int after(int z, int draws) {
    for (int i = 0; i < draws; i++) z = next(z);
    return z;
  }

  static int rest(int z, int by) { return (z >>> 8) % by; }

  /** The least seed from 0 on whose draws, one behind the other, have these rests by 100 (-1: any). */
  static int seed(int... rests) {
    for (int seed = 0; seed < Integer.MAX_VALUE; seed++) if (has(seed, rests)) return seed;
    throw new IllegalStateException("no such seed");
  }

  private static boolean has(int seed, int[] rests) {
    int z = seed;
    for (int want : rests) {
      z = next(z);
      if (want >= 0 && rest(z, 100) != want) return false;
    }
    return true;
  }
}
