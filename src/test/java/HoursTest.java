/** Promises 11 to 22: hours, and what will be. */
public final class HoursTest {
  private static final int BAD = CatDoors.BAD, NONE = CatDoors.NONE;
  private static final Due due = new Due("HoursTest");

  private static CatDoors withOne(int kind, int hour, int habit, int means) {
    CatDoors x = new CatDoors();
    x.asking(kind, hour, habit, means);
    x.rule(1, 0);
    x.rule(2, 0);
    return x;
  }

  private static int drawn(int z, int draws) {
    for (int i = 0; i < draws; i++) z = z * 1103515245 + 12345;
    return z;
  }

  private static void draws() {
    CatDoors x = withOne(0, 3, 99, 100);
    due.is(11, "an hour without its asking", x.hours(1), 0);
    due.is(11, "two draws", x.count(11), drawn(1, 2));
    x.set(0, 1, 1);
    due.is(11, "one gets up", x.hours(1), 1);
    due.is(11, "four draws", x.count(11), drawn(1, 6));
    x.set(0, 1, 2);
    x.rule(0, 99);
    due.is(11, "none gets up", x.hours(1), 0);
    due.is(11, "three draws", x.count(11), drawn(1, 9));
    due.is(11, "THE HOUR", x.count(1), 3);
  }

  private static void worksOrNot() {
    CatDoors x = withOne(0, 0, 60, 100);
    x.seed(2);
    x.set(0, 2, 60);
    int asks = (drawn(2, 3) >>> 8) % 100;
    x.set(0, 2, Math.max(1, Math.min(99, asks + 1)));
    int habit = x.told(0, 2);
    x.rule(0, habit - 1);
    due.is(11, "presses by more than PATIENCE", x.hours(1), 1);
    due.is(11, "HABIT grows", x.told(0, 2), Math.min(99, habit + 8));
    due.is(11, "WORKED", x.told(0, 4), 1);
    due.is(11, "the cat is out", x.house(0), 1);
    due.is(11, "LEFT", x.house(3), 1);
    CatDoors y = withOne(0, 0, habit, 100);
    y.seed(2);
    y.rule(0, habit);
    due.is(11, "presses by no more than PATIENCE", y.hours(1), 0);
    due.is(11, "HABIT fades", y.told(0, 2), Math.max(0, habit - 4));
    due.is(11, "PAINT", y.house(2), 2);
    due.is(11, "the cat is in", y.house(0), 0);
    CatDoors w = withOne(0, 0, Math.max(0, asks), 100);
    w.seed(2);
    due.is(11, "a draw that is not below HABIT", w.hours(1), 0);
    due.is(11, "nothing of it", w.house(2), 0);
    due.is(11, "HABIT stays", w.told(0, 2), asks);
  }

  private static void flap() {
    CatDoors x = withOne(0, 0, 99, 100);
    x.rule(2, 100);
    x.rule(3, 1);
    x.set(0, 1, 0);
    due.is(11, "nobody gets up", x.hours(25), 0);
    due.is(11, "LEFT", x.house(3), 1);
    due.is(11, "CAME", x.house(4), 1);
    due.is(11, "STRANGERS", x.house(5), 25);
    due.is(11, "HABIT stays", x.told(0, 2), 99);
    due.is(11, "WORKED stays", x.told(0, 4), 0);
    due.is(11, "PAINT stays", x.house(2), 0);
    due.is(11, "THREAT", x.count(7), 1);
    due.is(11, "no WET", x.count(6), 0);
    x.rule(1, 100);
    x.rule(2, 0);
    x.hours(1);
    due.is(11, "no THREAT", x.count(7), 0);
    due.is(11, "WET", x.count(6), 1);
    due.is(11, "STRANGERS stay", x.house(5), 25);
  }

  private static void bounds() {
    CatDoors x = new CatDoors();
    int[] wrong = {0, -1, 101, Integer.MAX_VALUE, Integer.MIN_VALUE};
    for (int n : wrong) {
      due.is(11, "hours(" + n + ")", x.hours(n), BAD);
      due.is(18, "lamp(" + n + ")", x.lamp(n), BAD);
      due.is(19, "saved(" + n + ")", x.saved(n), BAD);
      due.is(17, "heard(" + n + ", 0)", x.heard(n, 0), BAD);
    }
    x.asking(0, 15, 99, 100);
    for (int i = 0; i < 99; i++) x.hours(100);
    due.is(11, "THE HOUR", x.count(1), 9900);
    x.hours(99);
    x.keep();
    int z = x.count(11);
    due.is(11, "hours(1) at the last", x.hours(1), 0);
    due.is(11, "THE HOUR", x.count(1), 9999);
    due.is(11, "no draws", x.count(11), z);
    due.is(38, "check(1) of an image at the last", x.check(1), 0);
    x.tell(99);
    due.is(38, "one too many", x.check(1), 1);
    x.rule(0, 0);
    int before = x.house(1);
    due.holds(13, "a thought goes beyond 9999", x.behind(96, 0) > before);
    due.is(13, "THE HOUR stays", x.count(1), 9999);
    for (int w : new int[] {-1, 8, Integer.MAX_VALUE, Integer.MIN_VALUE}) due.is(12, "house(" + w + ")", x.house(w), BAD);
  }

  private static void house() {
    CatDoors x = new CatDoors();
    int[][] rows = {{5, 10}, {3, 20}, {23, 0}, {3, 30}, {0, 40}};
    for (int[] r : rows) x.asking(0, r[0], r[1], 0);
    due.is(12, "house(6)", x.house(6), 100);
    due.is(12, "hour 0: house(7)", x.house(7), 16);
    x.set(4, 2, 0);
    due.is(12, "without habit: house(7)", x.house(7), 10);
    x.rule(0, 99);
    x.set(0, 2, 0);
    x.set(1, 2, 0);
    x.set(3, 2, 0);
    due.is(12, "none: house(7)", x.house(7), 0);
    x.hours(10);
    x.set(1, 2, 9);
    x.set(0, 2, 9);
    due.is(12, "round: house(7)", x.house(7), 2);
    x.set(2, 2, 9);
    due.is(12, "23 comes first: house(7)", x.house(7), 4);
    x.set(0, 1, 10);
    due.is(12, "this hour counts: house(7)", x.house(7), 1);
    x.set(0, 2, 1);
    due.is(12, "any habit: house(7)", x.house(7), 1);
  }

  /** What is thought of is what comes, and thinking changes nothing. */
  private static void thoughtsAndDeeds() {
    for (int seed = 0; seed < 12; seed++) {
      CatDoors x = new CatDoors();
      x.seed(seed);
      x.deal(6);
      x.rule(0, 20 + 5 * seed);
      x.hours(1 + seed);
      Due.text(x, seed % 2 == 0 ? "press h+w*3" : "press m");
      String before = Due.looks(x);
      int n = 10 + 7 * seed;
      int risings = x.behind(n, 0), paint = x.behind(n, 1), where = x.behind(n, 2), lamp = x.lamp(n);
      int[] habits = new int[6];
      for (int k = 0; k < 6; k++) habits[k] = x.behind(n, 3 + k);
      x.firm(20, 0);
      x.heard(50, 1);
      x.givenIn(30, 2);
      x.saved(40);
      x.quiet();
      due.holds(13, "thoughts change nothing", before.equals(Due.looks(x)));
      due.is(13, "behind(0, 0)", x.behind(0, 0), x.house(1));
      x.keep();
      int in = 0;
      for (int i = 0; i < n; i++) {
        x.hours(1);
        in += 1 - x.house(0);
      }
      due.is(13, "RISINGS", x.house(1), risings);
      due.is(13, "PAINT", x.house(2), paint);
      due.is(13, "where the cat is", x.house(0), where);
      for (int k = 0; k < 6; k++) due.is(13, "HABIT of " + k, x.told(k, 2), habits[k]);
      due.is(18, "lamp", lamp, in);
      x.back();
      due.is(19, "saved", x.saved(n), risingsWith(x, 0, n) - risingsWith(x, 1, n));
      int plain = habitsBehind(x, n);
      int given = x.givenIn(n, 1);
      x.set(1, 2, Math.min(99, x.told(1, 2) + x.told(1, 6)));
      if (seed % 2 == 1) due.is(16, "givenIn", given, habitsBehind(x, n) - plain);
      x.back();
      int fewest = Integer.MAX_VALUE, best = -1;
      for (int k = 0; k < 6; k++) {
        x.set(k, 2, 0);
        int r = x.behind(n, 0);
        x.back();
        if (r < fewest) { fewest = r; best = k; }
      }
      due.is(17, "heard(n, 0)", x.heard(n, 0), best);
      due.is(17, "heard(n, 1)", x.heard(n, 1), fewest);
    }
  }

  private static int risingsWith(CatDoors x, int flap, int n) {
    x.rule(3, flap);
    int risings = x.behind(n, 0);
    x.back();
    return risings;
  }

  private static int habitsBehind(CatDoors x, int n) {
    int sum = 0;
    for (int k = 0; k < x.count(0); k++) sum += x.behind(n, 3 + k);
    return sum;
  }

  private static void refusals() {
    CatDoors x = new CatDoors();
    due.is(17, "heard(1, 0) of none", x.heard(1, 0), NONE);
    due.is(17, "heard(1, 2) of none", x.heard(1, 2), BAD);
    due.is(13, "behind(1, 3) of none", x.behind(1, 3), BAD);
    x.asking(0, 0, 10, 0);
    x.asking(0, 0, 20, 0);
    due.is(13, "behind(100, 4)", x.behind(0, 4), 20);
    int[][] behind = {{-1, 0}, {101, 0}, {1, -1}, {1, 5}, {1, Integer.MAX_VALUE}, {1, Integer.MIN_VALUE}};
    for (int[] w : behind) due.is(13, "behind(" + w[0] + ", " + w[1] + ")", x.behind(w[0], w[1]), BAD);
    int[][] firm = {{0, 0}, {49, 0}, {1, -1}, {1, 2}};
    for (int[] w : firm) due.is(15, "firm(" + w[0] + ", " + w[1] + ")", x.firm(w[0], w[1]), BAD);
    int[][] given = {{0, 0}, {101, 0}, {1, -1}, {1, 2}};
    for (int[] w : given) due.is(16, "givenIn(" + w[0] + ", " + w[1] + ")", x.givenIn(w[0], w[1]), BAD);
    int[][] heard = {{0, 0}, {101, 0}, {1, -1}, {1, 2}};
    for (int[] w : heard) due.is(17, "heard(" + w[0] + ", " + w[1] + ")", x.heard(w[0], w[1]), BAD);
    x.rule(0, 99);
    for (int n : new int[] {1, 100}) {
      due.is(13, "behind(" + n + ", 0)", x.behind(n, 0), 0);
      due.holds(16, "givenIn(" + n + ", 1)", x.givenIn(n, 1) > BAD + 100);
      due.is(17, "heard(" + n + ", 0)", x.heard(n, 0), 0);
      due.is(17, "heard(" + n + ", 1)", x.heard(n, 1), 0);
      due.is(18, "lamp(" + n + ")", x.lamp(n), n);
      due.is(19, "saved(" + n + ")", x.saved(n), 0);
    }
    due.is(22, "fine(2)", x.fine(2), BAD);
    due.is(22, "fine(-1)", x.fine(-1), BAD);
  }

  private static void quiet() {
    CatDoors x = new CatDoors();
    due.is(14, "no askings", x.quiet(), 0);
    x.asking(0, 5, 0, 0);
    due.is(14, "no habits", x.quiet(), 0);
    x.set(0, 2, 99);
    due.is(14, "not by then", x.quiet(), NONE);
    for (int seed = 0; seed < 40; seed++) {
      CatDoors y = withOne(5, 7, 9, 0);
      y.asking(5, 8, 9, 0);
      y.rule(0, 99);
      y.seed(seed);
      int quiet = y.quiet();
      int passed = 0, first = NONE;
      while (passed <= 300 && first == NONE) {
        int step = passed == 0 ? 8 : passed % 24 == 8 ? 1 : 23;
        y.hours(step);
        passed += step;
        if (y.house(6) == 0) first = passed;
      }
      due.is(14, "quiet by seed " + seed, quiet, first > 300 ? NONE : first);
    }
    CatDoors last = quietAt(300), late = quietAt(301);
    due.is(14, "quiet behind 300", last.quiet(), 300);
    due.is(14, "quiet behind 301", late.quiet(), NONE);
  }

  /** An asking that asks for the first time in the hour before n, and fades to 0 at once. */
  private static CatDoors quietAt(int n) {
    for (int seed = 0; seed < 100000; seed++) {
      CatDoors y = fadingAt((n - 1) % 24, seed);
      y.hours(n % 24);
      for (int passed = n % 24; passed < n && y.house(6) == 9; passed += 24) {
        y.hours(23);
        boolean silent = y.house(6) == 9;
        y.hours(1);
        if (passed + 24 == n && silent && y.house(6) == 0) return fadingAt((n - 1) % 24, seed);
      }
    }
    throw new IllegalStateException("no seed");
  }

  private static CatDoors fadingAt(int hour, int seed) {
    CatDoors y = withOne(5, hour, 9, 0);
    y.rule(0, 99);
    y.seed(seed);
    return y;
  }

  private static void firm() {
    CatDoors x = withOne(0, 0, 99, 0);
    due.is(15, "the least PATIENCE that withstands", x.firm(24, 0), 99);
    due.is(15, "HABITS with it", x.firm(24, 1), 95);
    x.set(0, 2, 97);
    due.is(15, "another", x.firm(1, 0), 97);
    due.is(15, "HABITS with it", x.firm(1, 1), 93);
    x.set(0, 1, 5);
    due.is(15, "of several the least", x.firm(5, 0), 0);
    due.is(15, "HABITS", x.firm(5, 1), 97);
    x.set(0, 2, 0);
    due.is(15, "no habits", x.firm(48, 0), 0);
    due.is(15, "no habits", x.firm(48, 1), 0);
    due.is(15, "PATIENCE stays", x.count(2), 50);
  }

  private static void taught() {
    CatDoors x = new CatDoors();
    x.sheet(0, 0, 2);
    due.is(20, "taught(0, 0) of none", x.taught(0, 0), NONE);
    due.is(20, "taught(1, 0) of a missing one", x.taught(1, 0), CatDoors.NOTHING);
    due.is(20, "taught(1, 2)", x.taught(1, 2), BAD);
    due.is(20, "taught(4, 0)", x.taught(4, 0), BAD);
    due.is(20, "taught(-1, 0)", x.taught(-1, 0), BAD);
    x.asking(0, 0, 0, 0);
    x.asking(0, 0, 0, 0);
    due.is(20, "of several the least", x.taught(0, 0), 0);
    x.sheet(0, 0, 24);
    for (int k = 0; k < 24; k++) x.mark(0, k, k < 12 ? -1 : 1000);
    due.is(20, "12 places", x.taught(0, 1), 12);
    x.sheet(1, 1, 13);
    for (int k = 0; k < 13; k++) x.mark(1, k, k % 2 == 0 ? NONE : 10);
    due.is(20, "numbers alone", x.taught(1, 1), 60);
    x.sheet(2, 1, 0);
    due.is(20, "no places", x.taught(2, 1), 0);
    x.set(0, 2, 50);
    x.set(1, 2, 50);
    x.set(1, 1, 23);
    x.rule(0, 99);
    x.seed(5);
    x.sheet(3, 0, 3);
    for (int k = 0; k < 3; k++) x.mark(3, k, x.behind(24 * k, 4));
    due.is(20, "HABIT behind days", x.taught(3, 1), 0);
    due.is(20, "of the second, or as good", x.taught(3, 0), x.behind(24, 3) == x.behind(24, 4) && x.behind(48, 3) == x.behind(48, 4) ? 0 : 1);
    x.mark(3, 0, -32768);
    due.is(20, "signs left out", x.taught(3, 1), 32818);
  }

  private static void feeAndFine() {
    CatDoors x = withOne(3, 0, 99, 100);
    x.rule(0, 99);
    x.hours(1);
    due.is(21, "fee() without a text", x.fee(), 7);
    x.opens(0);
    due.is(22, "fine(0) without a text", x.fine(0), 1);
    Due.text(x, "fee r*100+p");
    Due.text(x, "fine h*100+w");
    due.is(21, "fee()", x.fee(), 107);
    due.is(22, "fine(0)", x.fine(0), 9901);
  }

  public static void main(String[] args) {
    draws();
    worksOrNot();
    flap();
    bounds();
    house();
    thoughtsAndDeeds();
    refusals();
    quiet();
    firm();
    taught();
    feeAndFine();
    due.ends();
  }
}
