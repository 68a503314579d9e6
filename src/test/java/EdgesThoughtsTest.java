import java.util.function.ToIntFunction;

/** Each sentence of "Terms", part 3, and of promises 13 to 22 that names an edge: a test of its own. */
public final class EdgesThoughtsTest {
  private static final int BAD = CatDoors.BAD, NONE = CatDoors.NONE, NOTHING = CatDoors.NOTHING;
  private static final int LOW = Integer.MIN_VALUE, HIGH = Integer.MAX_VALUE;
  private static final Due due = new Due("EdgesThoughtsTest");

  private static CatDoors lateBy(int hour) {
    CatDoors x = new CatDoors();
    for (int left = hour; left > 0; left -= 100) x.hours(Math.min(left, 100));
    return x;
  }

  /** Five askings, a sheet, an image and some of all else, THE HOUR as told; but for THE HOUR's days all is the same, whatever it is. */
  private static CatDoors livelyAt(int hour) {
    CatDoors x = lateBy(hour);
    x.keep();
    x.tell(7);
    x.feed(1, 2, 3);
    x.lay(0, 3, 5);
    x.seed(4321);
    x.deal(3);
    x.asking(0, 16, 99, 100);
    x.asking(5, 20, 90, 0);
    x.rule(0, 40);
    x.rule(5, 0);
    x.rule(6, 0);
    x.sheet(0, 0, 4);
    for (int place = 0; place < 4; place++) x.mark(0, place, 30 + 10 * place);
    return x;
  }

  private static CatDoors lively() { return livelyAt(15); }

  /** One asking in dry weather without a tom; the draws are told by their rests. */
  private static CatDoors withOne(int kind, int hour, int habit, int means, int... rests) {
    CatDoors x = new CatDoors();
    x.asking(kind, hour, habit, means);
    x.rule(1, 0);
    x.rule(2, 0);
    x.seed(Dice.seed(rests));
    return x;
  }

  private static int habitsBehind(CatDoors x, int n) {
    int sum = 0;
    for (int k = 0; k < x.count(0); k++) sum += x.behind(n, 3 + k);
    return sum;
  }

  // ---- Terms, part 3: "(All this is only thought, z as it is, ...: nothing changes.)"

  private static void onlyThought(int promise, String call, ToIntFunction<CatDoors> thought) {
    int want = thought.applyAsInt(lively());
    due.refuses(promise, call, EdgesThoughtsTest::lively, thought, want);
    CatDoors x = lively();
    thought.applyAsInt(x);
    due.is(promise, call + " once more", thought.applyAsInt(x), want);
  }

  // Terms 3: "nothing changes": BEHIND.
  static void terms3BehindChangesNothing() {
    for (int what = 0; what < 8; what++) {
      int w = what;
      onlyThought(13, "behind(60, " + w + ")", x -> x.behind(60, w));
    }
  }

  // Terms 3: "nothing changes": QUIET.
  static void terms3QuietChangesNothing() { onlyThought(14, "quiet()", CatDoors::quiet); }

  // Terms 3: "nothing changes": FIRM (PATIENCE neither).
  static void terms3FirmChangesNothing() {
    onlyThought(15, "firm(30, 0)", x -> x.firm(30, 0));
    onlyThought(15, "firm(30, 1)", x -> x.firm(30, 1));
  }

  // Terms 3: "nothing changes": GIVEN IN (WORKED, HABIT and RISINGS neither).
  static void terms3GivenInChangesNothing() { onlyThought(16, "givenIn(60, 3)", x -> x.givenIn(60, 3)); }

  // Terms 3: "nothing changes": HEARD (no HABIT is 0 then).
  static void terms3HeardChangesNothing() {
    onlyThought(17, "heard(60, 0)", x -> x.heard(60, 0));
    onlyThought(17, "heard(60, 1)", x -> x.heard(60, 1));
  }

  // Terms 3: "nothing changes": LAMP.
  static void terms3LampChangesNothing() { onlyThought(18, "lamp(60)", x -> x.lamp(60)); }

  // Terms 3: "nothing changes": SAVED (FLAP neither).
  static void terms3SavedChangesNothing() { onlyThought(19, "saved(60)", x -> x.saved(60)); }

  // Terms 3: "nothing changes": TAUGHT (the SHEET neither).
  static void terms3TaughtChangesNothing() {
    onlyThought(20, "taught(0, 0)", x -> x.taught(0, 0));
    onlyThought(20, "taught(0, 1)", x -> x.taught(0, 1));
  }

  // ---- Terms, part 3: "without the bound of THE HOUR" (9999's rest by 24 is 15)

  private static void beyond(int promise, String call, ToIntFunction<CatDoors> thought) {
    int want = thought.applyAsInt(livelyAt(15));
    due.is(promise, call + " at 9999", thought.applyAsInt(livelyAt(9999)), want);
    due.is(promise, call + " at 9975", thought.applyAsInt(livelyAt(9975)), want);
  }

  // Terms 3: "without the bound of THE HOUR": BEHIND.
  static void terms3BehindGoesBeyond9999() {
    CatDoors x = livelyAt(9999);
    due.holds(13, "one gets up beyond 9999", x.behind(100, 0) > x.house(1));
    for (int what = 0; what < 8; what++) {
      int w = what;
      beyond(13, "behind(100, " + w + ")", y -> y.behind(100, w));
    }
  }

  // Terms 3: "without the bound of THE HOUR": QUIET.
  static void terms3QuietGoesBeyond9999() {
    for (int hour : new int[] {15, 9975, 9999}) {
      CatDoors x = lateBy(hour);
      x.asking(5, 15, 9, 0);
      x.rule(0, 99);
      x.seed(Dice.seed(-1, -1, 0));
      due.is(14, "quiet() at " + hour, x.quiet(), 1);
    }
    beyond(14, "quiet()", CatDoors::quiet);
  }

  // Terms 3: "without the bound of THE HOUR": FIRM.
  static void terms3FirmGoesBeyond9999() {
    CatDoors x = livelyAt(9999);
    due.holds(15, "HABITS change beyond 9999", x.firm(48, 1) != x.house(6));
    beyond(15, "firm(48, 0)", y -> y.firm(48, 0));
    beyond(15, "firm(48, 1)", y -> y.firm(48, 1));
  }

  // Terms 3: "without the bound of THE HOUR": GIVEN IN.
  static void terms3GivenInGoesBeyond9999() {
    for (int a = 0; a < 5; a++) {
      int one = a;
      beyond(16, "givenIn(100, " + a + ")", x -> x.givenIn(100, one));
    }
    for (int hour : new int[] {15, 9999}) {
      CatDoors x = lateBy(hour);
      x.asking(0, 15, 60, 0);
      Due.text(x, "press 60-w*20");
      x.seed(Dice.seed(-1, -1, 0));
      due.is(16, "at " + hour + " it fails in the next hour, having worked", x.givenIn(1, 0), -4);
    }
  }

  // Terms 3: "without the bound of THE HOUR": HEARD.
  static void terms3HeardGoesBeyond9999() {
    CatDoors x = livelyAt(9999);
    due.holds(17, "one gets up beyond 9999", x.heard(100, 1) > x.house(1));
    beyond(17, "heard(100, 0)", y -> y.heard(100, 0));
    beyond(17, "heard(100, 1)", y -> y.heard(100, 1));
  }

  // Terms 3: "without the bound of THE HOUR": LAMP.
  static void terms3LampGoesBeyond9999() {
    due.holds(18, "it is out in some hours beyond 9999", livelyAt(9999).lamp(100) < 100);
    beyond(18, "lamp(100)", x -> x.lamp(100));
  }

  // Terms 3: "without the bound of THE HOUR": SAVED.
  static void terms3SavedGoesBeyond9999() {
    due.holds(19, "some are saved beyond 9999", livelyAt(9999).saved(100) > 0);
    beyond(19, "saved(100)", x -> x.saved(100));
  }

  // Terms 3: "without the bound of THE HOUR": TAUGHT.
  static void terms3TaughtGoesBeyond9999() {
    beyond(20, "taught(0, 0)", x -> x.taught(0, 0));
    beyond(20, "taught(0, 1)", x -> x.taught(0, 1));
    CatDoors x = livelyAt(9999);
    x.sheet(1, 1, 2);
    x.mark(1, 0, NONE);
    x.mark(1, 1, x.behind(24, 7));
    due.is(20, "by a day beyond 9999", x.taught(1, 1), 0);
    due.holds(20, "which is another", x.behind(24, 7) != x.told(4, 2));
  }

  // ---- Promise 13: behind

  // Promise 13: "n (0 .. 100)": 0 is what is now.
  static void promise13BehindNone() {
    CatDoors x = lively();
    x.hours(30);
    due.is(13, "behind(0, 0)", x.behind(0, 0), x.house(1));
    due.is(13, "behind(0, 1)", x.behind(0, 1), x.house(2));
    due.is(13, "behind(0, 2)", x.behind(0, 2), x.house(0));
    for (int k = 0; k < 5; k++) due.is(13, "behind(0, 3 and " + k + ")", x.behind(0, 3 + k), x.told(k, 2));
  }

  // Promise 13: "n (0 .. 100)": 100 is what a hundred hours bring.
  static void promise13BehindAHundred() {
    CatDoors x = lively(), y = lively();
    y.hours(100);
    due.is(13, "behind(100, 0)", x.behind(100, 0), y.house(1));
    due.is(13, "behind(100, 1)", x.behind(100, 1), y.house(2));
    due.is(13, "behind(100, 2)", x.behind(100, 2), y.house(0));
    for (int k = 0; k < 5; k++) due.is(13, "behind(100, 3 and " + k + ")", x.behind(100, 3 + k), y.told(k, 2));
  }

  // Promise 13: "n (0 .. 100) ... BAD.": below and above.
  static void promise13BadN() {
    for (int n : new int[] {-1, 101, LOW, HIGH}) due.refuses(13, "behind(" + n + ", 0)", EdgesThoughtsTest::lively, x -> x.behind(n, 0), BAD);
  }

  // Promise 13: "what 0 RISINGS, 1 PAINT, 2 where the CAT is; 3 and k: HABIT of ASKING k. BAD.": below 0, and an ASKING that is none.
  static void promise13BadWhat() {
    for (int w : new int[] {-1, 8, 15, LOW, HIGH}) due.refuses(13, "behind(1, " + w + ")", EdgesThoughtsTest::lively, x -> x.behind(1, w), BAD);
    due.is(13, "behind(0, 3) of no ASKINGS", new CatDoors().behind(0, 3), BAD);
    due.is(13, "behind(0, 2) of no ASKINGS", new CatDoors().behind(0, 2), 0);
  }

  // Promise 13: "3 and k": the last of 12.
  static void promise13TheLastOfTwelve() {
    CatDoors x = new CatDoors();
    for (int i = 0; i < 12; i++) x.asking(0, 5, 10 + i, 0);
    due.is(13, "behind(0, 14)", x.behind(0, 14), 21);
    due.is(13, "behind(0, 15)", x.behind(0, 15), BAD);
  }

  // ---- Promise 14: quiet

  // Terms 3, QUIET: "behind how many HOURS (0 .. 300) all HABITS are 0 first": 0, if they are now.
  static void promise14QuietNow() {
    CatDoors x = new CatDoors();
    due.is(14, "no ASKINGS", x.quiet(), 0);
    x.asking(0, 0, 0, 0);
    x.asking(0, 1, 0, 0);
    due.is(14, "no HABITS", x.quiet(), 0);
    x.set(1, 2, 1);
    due.holds(14, "one HABIT of 1", x.quiet() != 0);
  }

  /** A seed by which an asking of HABIT 9 asks for the first time in the hour behind which n have passed. */
  private static int silentUpTo(int n) {
    for (int seed = 0; seed < HIGH; seed++) {
      int z = seed, asked = 0;
      for (int hour = 0; hour < n && asked == 0; hour++) {
        z = Dice.after(z, 2);
        if (hour % 24 != (n - 1) % 24) continue;
        z = Dice.next(z);
        if (Dice.rest(z, 100) < 9) asked = hour + 1;
      }
      if (asked == n) return seed;
    }
    throw new IllegalStateException("no such seed");
  }

  private static int quietOf(int n) {
    CatDoors x = withOne(5, (n - 1) % 24, 9, 0);
    x.rule(0, 99);
    x.seed(silentUpTo(n));
    return x.quiet();
  }

  // Terms 3, QUIET: "behind how many HOURS ...": one hour is enough.
  static void promise14QuietBehindOne() { due.is(14, "quiet()", quietOf(1), 1); }

  // Terms 3, QUIET: "(0 .. 300)": 300 still counts.
  static void promise14QuietBehind300() {
    due.is(14, "quiet(), 299", quietOf(299), 299);
    due.is(14, "quiet(), 300", quietOf(300), 300);
  }

  // Promise 14: "NONE: not by then.": 301 is too late.
  static void promise14NotBy300() { due.is(14, "quiet(), 301", quietOf(301), NONE); }

  // Promise 14: "NONE: not by then.": with a FLAP no HABIT changes.
  static void promise14NeverQuietWithAFlap() {
    CatDoors x = withOne(5, 0, 1, 0);
    x.rule(3, 1);
    due.is(14, "quiet()", x.quiet(), NONE);
  }

  // Terms 3, QUIET: "all HABITS are 0": one that is left keeps it from being quiet.
  static void promise14AllHabits() {
    CatDoors x = withOne(5, 0, 9, 0, -1, -1, 0, -1, -1, 0);
    x.asking(5, 1, 9, 0);
    due.is(14, "quiet()", x.quiet(), 2);
  }

  // ---- Promise 15: firm

  // Promise 15: "n (1 .. 48) ... BAD.": 0, 49 and far out.
  static void promise15BadN() {
    for (int n : new int[] {0, 49, -1, 100, LOW, HIGH}) due.refuses(15, "firm(" + n + ", 0)", EdgesThoughtsTest::lively, x -> x.firm(n, 0), BAD);
  }

  // Promise 15: "what 0 PATIENCE, 1 HABITS. BAD."
  static void promise15BadWhat() {
    for (int w : new int[] {-1, 2, LOW, HIGH}) due.refuses(15, "firm(1, " + w + ")", EdgesThoughtsTest::lively, x -> x.firm(1, w), BAD);
  }

  // Promise 15: "n (1 .. 48)": both ends, by each PATIENCE in turn.
  static void promise15EndsOfN() {
    for (int n : new int[] {1, 48}) {
      int best = -1, least = HIGH;
      for (int patience = 0; patience <= 99; patience++) {
        CatDoors y = lively();
        y.rule(0, patience);
        int habits = habitsBehind(y, n);
        if (habits < least) { least = habits; best = patience; }
      }
      due.is(15, "firm(" + n + ", 0)", lively().firm(n, 0), best);
      due.is(15, "firm(" + n + ", 1)", lively().firm(n, 1), least);
    }
  }

  // Terms 3, FIRM: "the least PATIENCE with which ...": where all do the same, 0.
  static void promise15LeastPatienceOfAll() {
    due.is(15, "no ASKINGS", new CatDoors().firm(48, 0), 0);
    due.is(15, "no ASKINGS", new CatDoors().firm(48, 1), 0);
    CatDoors x = withOne(0, 9, 70, 0);
    due.is(15, "none in these hours", x.firm(9, 0), 0);
    due.is(15, "none in these hours", x.firm(9, 1), 70);
    x.rule(3, 1);
    due.is(15, "a FLAP", x.firm(48, 0), 0);
  }

  // Terms 3, FIRM: "the least PATIENCE with which ...": just as much as it presses by, and no more.
  static void promise15LeastPatienceThatWithstands() {
    CatDoors x = withOne(0, 0, 70, 0, -1, -1, 0);
    due.is(15, "firm(1, 0)", x.firm(1, 0), 70);
    due.is(15, "firm(1, 1)", x.firm(1, 1), 66);
  }

  // Terms 3, FIRM: PATIENCE is 0 .. 99: the most of it is thought of too.
  static void promise15TheMostPatience() {
    CatDoors x = withOne(0, 0, 99, 0, -1, -1, 0);
    due.is(15, "firm(1, 0)", x.firm(1, 0), 99);
    due.is(15, "firm(1, 1)", x.firm(1, 1), 95);
  }

  // Terms 3, FIRM: PATIENCE is 0 .. 99: none withstands a press of 100.
  static void promise15NoPatienceWithstands100() {
    CatDoors x = withOne(5, 0, 95, 0, -1, -1, 0);
    due.is(15, "firm(1, 0)", x.firm(1, 0), 0);
    due.is(15, "firm(1, 1)", x.firm(1, 1), 99);
  }

  // ---- Promise 16: givenIn

  // Promise 16: "n (1 .. 100) ... BAD.": 0, 101 and far out.
  static void promise16BadN() {
    for (int n : new int[] {0, 101, -1, LOW, HIGH}) due.refuses(16, "givenIn(" + n + ", 0)", EdgesThoughtsTest::lively, x -> x.givenIn(n, 0), BAD);
  }

  // Promise 16: "an ASKING. BAD.": none such.
  static void promise16BadAsking() {
    for (int a : new int[] {-1, 5, LOW, HIGH}) due.refuses(16, "givenIn(1, " + a + ")", EdgesThoughtsTest::lively, x -> x.givenIn(1, a), BAD);
    due.is(16, "of no ASKINGS", new CatDoors().givenIn(1, 0), BAD);
  }

  // Promise 16: "n (1 .. 100)": both ends, by a twin whose HABIT is what it would be (WORKED has no say without a TEXT).
  static void promise16EndsOfN() {
    for (int n : new int[] {1, 100}) {
      for (int a = 0; a < 5; a++) {
        CatDoors x = lively(), y = lively();
        y.set(a, 2, Math.min(99, y.told(a, 2) + y.told(a, 6)));
        due.is(16, "givenIn(" + n + ", " + a + ")", x.givenIn(n, a), habitsBehind(y, n) - habitsBehind(x, n));
      }
    }
  }

  // Terms 3, GIVEN IN: "HABIT by what it LEARNS more, 99 at most".
  static void promise16HabitIs99AtMost() {
    int[][] pairs = {{90, 8}, {91, 8}, {92, 7}, {98, 1}, {99, 0}};
    for (int[] p : pairs) due.is(16, "HABIT " + p[0], withOne(0, 5, p[0], 0).givenIn(1, 0), p[1]);
  }

  // Terms 3, GIVEN IN: "(or less)": an answer below 0.
  static void promise16OrLess() {
    CatDoors x = withOne(0, 0, 60, 0, -1, -1, 0);
    Due.text(x, "press 60-w*20");
    due.is(16, "68 without, 64 with", x.givenIn(1, 0), -4);
  }

  // Terms 3, GIVEN IN: "(WORKED 1 more, ...)": the TEXT of press is told of it.
  static void promise16WorkedOneMore() {
    CatDoors x = withOne(0, 0, 40, 0, -1, -1, 0);
    Due.text(x, "press 50+w");
    due.is(16, "36 without, 56 with", x.givenIn(1, 0), 20);
  }

  // Terms 3, GIVEN IN: "if it had worked once more now": no draw is made for it, z is as it is.
  static void promise16NoDrawForIt() {
    CatDoors x = withOne(0, 5, 10, 100, -1, -1, 30);
    x.asking(0, 0, 31, 0);
    due.is(16, "the other asks in both", x.givenIn(1, 0), 8);
  }

  // ---- Promise 17: heard

  // Promise 17: "n (1 .. 100) ... BAD".
  static void promise17BadN() {
    for (int n : new int[] {0, 101, -1, LOW, HIGH}) due.refuses(17, "heard(" + n + ", 0)", EdgesThoughtsTest::lively, x -> x.heard(n, 0), BAD);
  }

  // Promise 17: "what 0 the ASKING, 1 RISINGS. BAD".
  static void promise17BadWhat() {
    for (int w : new int[] {-1, 2, LOW, HIGH}) due.refuses(17, "heard(1, " + w + ")", EdgesThoughtsTest::lively, x -> x.heard(1, w), BAD);
  }

  // Promise 17: "NONE: there are no ASKINGS."
  static void promise17NoneWithoutAskings() {
    due.refuses(17, "heard(1, 0)", CatDoors::new, x -> x.heard(1, 0), NONE);
    due.refuses(17, "heard(100, 1)", CatDoors::new, x -> x.heard(100, 1), NONE);
  }

  // Promise 17: "BAD; NONE": BAD stands first.
  static void promise17BadStandsBeforeNone() {
    due.is(17, "heard(0, 0)", new CatDoors().heard(0, 0), BAD);
    due.is(17, "heard(101, 1)", new CatDoors().heard(101, 1), BAD);
    due.is(17, "heard(1, 2)", new CatDoors().heard(1, 2), BAD);
  }

  // Promise 17: "n (1 .. 100)": both ends, by each ASKING in turn.
  static void promise17EndsOfN() {
    for (int n : new int[] {1, 100}) {
      int best = -1, fewest = HIGH;
      for (int a = 0; a < 5; a++) {
        CatDoors y = lively();
        y.set(a, 2, 0);
        int risings = y.behind(n, 0);
        if (risings < fewest) { fewest = risings; best = a; }
      }
      due.is(17, "heard(" + n + ", 0)", lively().heard(n, 0), best);
      due.is(17, "heard(" + n + ", 1)", lively().heard(n, 1), fewest);
    }
  }

  // Terms 3, HEARD: "of several the least."
  static void promise17OfSeveralTheLeast() {
    CatDoors x = withOne(0, 9, 70, 0);
    x.asking(0, 9, 70, 0);
    due.is(17, "none in these hours", x.heard(9, 0), 0);
    CatDoors y = withOne(0, 9, 99, 0, -1, -1, 0);
    y.asking(0, 0, 99, 0);
    y.asking(0, 0, 0, 0);
    y.rule(0, 0);
    due.is(17, "the second alone rises", y.heard(1, 0), 1);
    due.is(17, "and none without it", y.heard(1, 1), 0);
  }

  // Terms 3, HEARD: "without which (HABIT 0 now)": it is drawn for still, so the next draws stay as they are.
  static void promise17HabitIs0Now() {
    CatDoors x = withOne(0, 0, 99, 0, -1, -1, 0, 98);
    x.asking(0, 0, 99, 0);
    x.asking(0, 7, 99, 0);
    x.rule(0, 0);
    CatDoors y = withOne(0, 0, 0, 0, -1, -1, 0, 98);
    y.asking(0, 0, 99, 0);
    y.asking(0, 7, 99, 0);
    y.rule(0, 0);
    due.is(17, "the second by the draw behind", y.behind(1, 0), 1);
    due.is(17, "heard(1, 1)", x.heard(1, 1), 1);
  }

  // ---- Promise 18: lamp

  // Promise 18: "n (1 .. 100). BAD."
  static void promise18BadN() {
    for (int n : new int[] {0, 101, -1, LOW, HIGH}) due.refuses(18, "lamp(" + n + ")", EdgesThoughtsTest::lively, x -> x.lamp(n), BAD);
  }

  // Promise 18: "n (1 .. 100)": both ends, IN all the time and OUT all the time.
  static void promise18EndsOfN() {
    CatDoors x = new CatDoors();
    due.is(18, "IN: lamp(1)", x.lamp(1), 1);
    due.is(18, "IN: lamp(100)", x.lamp(100), 100);
    x.rule(4, 1);
    due.is(18, "OUT: lamp(1)", x.lamp(1), 0);
    due.is(18, "OUT: lamp(100)", x.lamp(100), 0);
  }

  // Terms 3, LAMP: "the CAT is IN at the end": not at the start of an HOUR.
  static void promise18AtTheEnd() {
    CatDoors x = withOne(0, 0, 99, 100, -1, -1, 0, 0);
    x.rule(3, 1);
    due.is(18, "it leaves in the first", x.lamp(1), 0);
    due.is(18, "and is OUT for the day", x.lamp(24), 0);
    x.rule(4, 1);
    due.is(18, "it comes in the first", x.lamp(1), 1);
    due.is(18, "and is IN for the day", x.lamp(24), 24);
  }

  // ---- Promise 19: saved

  // Promise 19: "n (1 .. 100). BAD."
  static void promise19BadN() {
    for (int n : new int[] {0, 101, -1, LOW, HIGH}) due.refuses(19, "saved(" + n + ")", EdgesThoughtsTest::lively, x -> x.saved(n), BAD);
  }

  // Promise 19: "n (1 .. 100)": both ends.
  static void promise19EndsOfN() {
    for (int n : new int[] {1, 100}) due.is(19, "saved(" + n + ")", lively().saved(n), lively().behind(n, 0) - lively().house(1));
  }

  // Terms 3, SAVED: "than without one, all the time": also when there is a FLAP now.
  static void promise19WhetherThereIsAFlapNow() {
    CatDoors x = withOne(0, 0, 99, 0, -1, -1, 0);
    due.is(19, "no FLAP now", x.saved(1), 1);
    x.rule(3, 1);
    due.is(19, "a FLAP now", x.saved(1), 1);
    due.is(19, "it is there still", x.count(5), 1);
  }

  // Terms 3, SAVED: "how many RISINGS fewer": those that were do not count; none are saved where none rise.
  static void promise19RisingsThatWere() {
    CatDoors x = withOne(0, 9, 99, 0);
    x.opens(0);
    x.opens(0);
    due.is(19, "saved(9)", x.saved(9), 0);
    due.is(19, "of no ASKINGS", new CatDoors().saved(100), 0);
  }

  // ---- Promise 20: taught

  private static CatDoors twoWithSheet(int sort, int size) {
    CatDoors x = withOne(0, 5, 10, 0);
    x.asking(0, 5, 20, 0);
    x.rule(3, 1);
    x.sheet(0, sort, size);
    return x;
  }

  // Promise 20: "BAD": sheet and what.
  static void promise20Bad() {
    for (int s : new int[] {-1, 4, LOW, HIGH}) due.refuses(20, "taught(" + s + ", 0)", EdgesThoughtsTest::lively, x -> x.taught(s, 0), BAD);
    for (int w : new int[] {-1, 2, LOW, HIGH}) due.refuses(20, "taught(0, " + w + ")", EdgesThoughtsTest::lively, x -> x.taught(0, w), BAD);
  }

  // Promise 20: "NOTHING": the SHEET is MISSING (each of the four at first).
  static void promise20Nothing() {
    for (int sheet = 0; sheet < 4; sheet++) {
      int s = sheet;
      due.refuses(20, "taught(" + s + ", 0)", () -> withOne(0, 0, 5, 5), x -> x.taught(s, 0), NOTHING);
    }
  }

  // Promise 20: "NONE: there are no ASKINGS."
  static void promise20None() {
    CatDoors x = new CatDoors();
    x.sheet(3, 0, 24);
    due.is(20, "taught(3, 0)", x.taught(3, 0), NONE);
    due.is(20, "taught(3, 1)", x.taught(3, 1), NONE);
  }

  // Promise 20: "BAD; NOTHING; NONE": in this order.
  static void promise20OrderOfRefusals() {
    CatDoors x = new CatDoors();
    due.is(20, "all three", x.taught(0, 2), BAD);
    due.is(20, "all three", x.taught(4, 0), BAD);
    due.is(20, "MISSING, and no ASKINGS", x.taught(0, 0), NOTHING);
  }

  // Terms 3, TAUGHT: a SHEET without places: no differences, "of several the least".
  static void promise20NoPlaces() {
    CatDoors x = twoWithSheet(1, 0);
    due.is(20, "taught(0, 0)", x.taught(0, 0), 0);
    due.is(20, "taught(0, 1)", x.taught(0, 1), 0);
  }

  // Terms 3, TAUGHT: "of several the least": where two differ by as much, from above and below.
  static void promise20OfSeveralTheLeast() {
    CatDoors x = twoWithSheet(0, 1);
    x.mark(0, 0, 15);
    due.is(20, "10 and 20 by 15", x.taught(0, 0), 0);
    due.is(20, "the difference", x.taught(0, 1), 5);
    x.mark(0, 0, 16);
    due.is(20, "10 and 20 by 16", x.taught(0, 0), 1);
    due.is(20, "the difference", x.taught(0, 1), 4);
  }

  // Terms 3, TAUGHT: "(signs left out)": differences below and above do not make up for one another.
  static void promise20SignsLeftOut() {
    CatDoors x = twoWithSheet(0, 2);
    x.mark(0, 0, 0);
    x.mark(0, 1, 40);
    due.is(20, "20 below and 20 above", x.taught(0, 1), 40);
    x.mark(0, 0, -32768);
    x.mark(0, 1, 32767);
    due.is(20, "the ends of shorts", x.taught(0, 1), 32778 + 32757);
  }

  // Terms 3, TAUGHT: "differ ... together": 12 places of the ends of floats.
  static void promise20TheGreatestDifferences() {
    CatDoors x = twoWithSheet(1, 12);
    for (int place = 0; place < 12; place++) x.mark(0, place, -99999);
    due.is(20, "taught(0, 1)", x.taught(0, 1), 12 * 100009);
    for (int place = 0; place < 12; place++) x.mark(0, place, 99999);
    due.is(20, "taught(0, 1)", x.taught(0, 1), 12 * 99979);
    due.is(20, "taught(0, 0)", x.taught(0, 0), 1);
  }

  // Terms 3, TAUGHT: "(k from 0 on, 12 places at most)": place 11 counts, place 12 does not.
  static void promise20TwelvePlacesAtMost() {
    CatDoors x = twoWithSheet(0, 24);
    for (int place = 0; place < 24; place++) x.mark(0, place, 10);
    due.is(20, "all 10", x.taught(0, 1), 0);
    for (int place = 12; place < 24; place++) x.mark(0, place, 999);
    due.is(20, "places 12 to 23", x.taught(0, 1), 0);
    x.mark(0, 11, 11);
    due.is(20, "place 11", x.taught(0, 1), 1);
  }

  // Terms 3, TAUGHT: "places k that are numbers": NO NUMBER has no say, and k goes on behind it.
  static void promise20NumbersAlone() {
    CatDoors x = twoWithSheet(1, 2);
    x.mark(0, 0, NONE);
    x.mark(0, 1, NONE);
    due.is(20, "no numbers at all", x.taught(0, 1), 0);
    CatDoors y = withOne(0, 5, 99, 0);
    y.rule(0, 99);
    y.seed(77);
    y.sheet(0, 1, 4);
    for (int place = 0; place < 3; place++) y.mark(0, place, NONE);
    y.mark(0, 3, y.behind(72, 3));
    due.is(20, "place 3 is behind 72 HOURS", y.taught(0, 1), 0);
    due.holds(20, "another than now", y.behind(72, 3) != 99);
  }

  // Terms 3, TAUGHT: "behind 24 times k HOURS": place 0 is now, place 1 a day from now.
  static void promise20PlaceByPlace() {
    CatDoors x = withOne(0, 23, 90, 0);
    x.rule(0, 99);
    x.seed(9);
    x.sheet(0, 0, 12);
    int differences = 0;
    for (int place = 0; place < 5; place++) differences += x.behind(24 * place, 3);
    int left = x.behind(96, 3);
    for (int place = 5; place < 12; place++) x.mark(0, place, 0);
    x.hours(96);
    due.is(20, "HABIT then", x.told(0, 2), left);
    for (int place = 1; place < 5; place++) differences += x.behind(24 * place, 3);
    x.hours(96);
    for (int place = 1; place < 4; place++) differences += x.behind(24 * place, 3);
    CatDoors y = withOne(0, 23, 90, 0);
    y.rule(0, 99);
    y.seed(9);
    y.sheet(0, 0, 12);
    due.is(20, "taught(0, 1)", y.taught(0, 1), differences);
  }

  // ---- Promises 21 and 22

  // Terms 4, promise 21: "without a TEXT: PAINT": 0 at first, and with texts of other keys.
  static void promise21WithoutAText() {
    CatDoors x = withOne(3, 0, 99, 0, -1, -1, 0);
    Due.text(x, "press 50");
    Due.text(x, "fine 7");
    due.is(21, "fee() at first", x.fee(), 0);
    x.rule(0, 99);
    x.hours(1);
    due.is(21, "fee()", x.fee(), 7);
  }

  // Promise 21: "What fee gives.": it is not held within anything, and may be below 0.
  static void promise21AnyInt() {
    CatDoors x = new CatDoors();
    Due.text(x, "fee 2048*1024*1024");
    due.is(21, "the least int", x.fee(), LOW);
    Due.text(x, "fee 2048*1024*1024-1");
    due.is(21, "the greatest int", x.fee(), HIGH);
  }

  // Promise 22: "BAD.": no such ASKING, with a TEXT and without.
  static void promise22Bad() {
    for (int a : new int[] {-1, 5, LOW, HIGH}) due.refuses(22, "fine(" + a + ")", EdgesThoughtsTest::lively, x -> x.fine(a), BAD);
    CatDoors x = lively();
    x.trim(0);
    Due.text(x, "fine 7");
    due.is(22, "fine(5)", x.fine(5), BAD);
    due.is(22, "fine(4)", x.fine(4), 7);
  }

  // Terms 4, promise 22: "without a TEXT: WORKED": 0 at first, and with texts of other keys.
  static void promise22WithoutAText() {
    CatDoors x = withOne(0, 0, 99, 0);
    Due.text(x, "press 50");
    Due.text(x, "fee 7");
    due.is(22, "fine(0) at first", x.fine(0), 0);
    x.opens(0);
    x.opens(0);
    due.is(22, "fine(0)", x.fine(0), 2);
  }

  // Promise 22: "What fine gives for an ASKING.": not held within anything.
  static void promise22AnyInt() {
    CatDoors x = withOne(0, 0, 99, 0);
    Due.text(x, "fine 0-h*9999*9999");
    due.is(22, "fine(0)", x.fine(0), 0 - 99 * 9999 * 9999);
  }

  public static void main(String[] args) { due.runs(EdgesThoughtsTest.class); }
}
