/** Each sentence of "Terms", part 2, and of promises 11 and 12 that names an edge: a test of its own. */
public final class EdgesHoursTest {
  private static final int BAD = CatDoors.BAD;
  private static final int LOW = Integer.MIN_VALUE, HIGH = Integer.MAX_VALUE;
  private static final Due due = new Due("EdgesHoursTest");

  /** An asking of hour 0, in dry weather and without a tom; the draws of the first hour are told by their rests. */
  private static CatDoors withOne(int kind, int habit, int means, int... rests) {
    CatDoors x = new CatDoors();
    x.asking(kind, 0, habit, means);
    x.rule(1, 0);
    x.rule(2, 0);
    x.seed(Dice.seed(rests));
    return x;
  }

  private static CatDoors lateBy(int hour) {
    CatDoors x = new CatDoors();
    for (int left = hour; left > 0; left -= 100) x.hours(Math.min(left, 100));
    return x;
  }

  // ---- Terms, part 2: (1) the weather

  private static void weather(int what, int v, int rest, int want) {
    CatDoors x = new CatDoors();
    x.rule(what, v);
    x.rule(3 - what, 0);
    x.seed(what == 1 ? Dice.seed(rest) : Dice.seed(-1, rest));
    x.hours(1);
    due.is(11, "rule(" + what + ", " + v + "), a draw of " + rest, x.count(5 + what), want);
    due.is(11, "the other one", x.count(8 - what), 0);
  }

  // Terms 2: "it is WET, if its rest by 100 is below RAIN": at RAIN, one below, one above.
  static void terms2WetBelowRain() {
    weather(1, 20, 20, 0);
    weather(1, 20, 19, 1);
    weather(1, 20, 21, 0);
  }

  // Terms 2: "it is WET, if its rest by 100 is below RAIN": RAIN 0 never, RAIN 100 always.
  static void terms2WetNeverAndAlways() {
    weather(1, 0, 0, 0);
    weather(1, 100, 99, 1);
    weather(1, 99, 99, 0);
    weather(1, 1, 0, 1);
  }

  // Terms 2: "there is a THREAT, if its rest by 100 is below TOM": at TOM, one below, one above.
  static void terms2ThreatBelowTom() {
    weather(2, 10, 10, 0);
    weather(2, 10, 9, 1);
    weather(2, 10, 11, 0);
  }

  // Terms 2: "there is a THREAT, if its rest by 100 is below TOM": TOM 0 never, TOM 100 always.
  static void terms2ThreatNeverAndAlways() {
    weather(2, 0, 0, 0);
    weather(2, 100, 99, 1);
    weather(2, 99, 99, 0);
    weather(2, 1, 0, 1);
  }

  // Terms 2: "A draw; ... one more draw": both are made also where RAIN and TOM are 0 or 100.
  static void terms2TwoDrawsWhateverTheRules() {
    for (int v : new int[] {0, 100}) {
      CatDoors x = new CatDoors();
      x.rule(1, v);
      x.rule(2, v);
      x.hours(1);
      due.is(11, "two draws", x.count(11), Dice.after(1, 2));
    }
  }

  // Terms 2: "A draw: z becomes z * 1103515245 + 12345 (an int)": it wraps.
  static void terms2DrawWrapsAsAnInt() {
    for (int seed : new int[] {HIGH, LOW, -1, 0, 1}) {
      CatDoors x = new CatDoors();
      x.seed(seed);
      x.hours(1);
      long z = seed;
      for (int i = 0; i < 2; i++) z = (int) (z * 1103515245L + 12345L);
      due.is(11, "z from " + seed, x.count(11), (int) z);
    }
  }

  // Terms 2: "it gives z >>> 8": of a z below 0 too, never below 0 itself.
  static void terms2DrawOfAZBelowZero() {
    int seed = 0;
    while (!(Dice.next(seed) < 0 && (Dice.next(seed) >>> 8) % 100 == 50 && (Dice.next(seed) >> 8) % 100 != 50)) seed++;
    for (int rain = 50; rain <= 51; rain++) {
      CatDoors x = new CatDoors();
      x.rule(1, rain);
      x.seed(seed);
      x.hours(1);
      due.is(11, "RAIN " + rain, x.count(6), rain - 50);
    }
  }

  // ---- Terms, part 2: (2) the askings

  // Terms 2: "ASKINGS ... whose HOUR is THE HOUR's rest by 24": others are not drawn for.
  static void terms2OtherHoursAreNotDrawnFor() {
    CatDoors x = new CatDoors();
    x.asking(0, 1, 99, 100);
    x.asking(0, 23, 99, 100);
    x.hours(1);
    due.is(11, "two draws", x.count(11), Dice.after(1, 2));
    due.is(11, "HABITS stay", x.house(6), 198);
  }

  // Terms 2: "THE HOUR's rest by 24": from 23 it comes round to 0.
  static void terms2HourComesRound() {
    CatDoors x = lateBy(23);
    x.asking(0, 23, 99, 0);
    x.asking(0, 0, 99, 0);
    x.rule(0, 99);
    x.seed(Dice.seed(-1, -1, 0, -1, -1, 0));
    x.hours(1);
    due.is(11, "HOUR 23 at 23", x.told(0, 2), 95);
    due.is(11, "HOUR 0 at 23", x.told(1, 2), 99);
    x.hours(1);
    due.is(11, "HOUR 23 at 24", x.told(0, 2), 95);
    due.is(11, "HOUR 0 at 24", x.told(1, 2), 95);
  }

  // Terms 2: "THE HOUR's rest by 24": at the last hour of all, 9998, it is 14.
  static void terms2HourOfTheLastHour() {
    CatDoors x = lateBy(9998);
    x.asking(0, 14, 99, 0);
    x.asking(0, 15, 99, 0);
    x.rule(0, 99);
    x.seed(Dice.seed(-1, -1, 0));
    x.hours(1);
    due.is(11, "HOUR 14", x.told(0, 2), 95);
    due.is(11, "HOUR 15", x.told(1, 2), 99);
  }

  // Terms 2: "if its rest by 100 is below HABIT, it ASKS (else nothing more of it)": at HABIT and one below.
  static void terms2AsksBelowHabit() {
    CatDoors at = withOne(0, 30, 100, -1, -1, 30), below = withOne(0, 31, 100, -1, -1, 30);
    at.hours(1);
    below.hours(1);
    due.is(11, "30 by 30: PAINT", at.house(2), 0);
    due.is(11, "30 by 30: HABIT", at.told(0, 2), 30);
    due.is(11, "30 by 31: PAINT", below.house(2), 2);
    due.is(11, "30 by 31: HABIT", below.told(0, 2), 27);
  }

  // Terms 2: "if its rest by 100 is below HABIT, it ASKS": HABIT 0 never does, but is drawn for.
  static void terms2Habit0IsDrawnForAndNeverAsks() {
    CatDoors x = withOne(0, 0, 100, -1, -1, 0);
    int z = x.count(11);
    x.rule(0, 0);
    due.is(11, "RISINGS", x.hours(1), 0);
    due.is(11, "three draws", x.count(11), Dice.after(z, 3));
    due.is(11, "PAINT", x.house(2), 0);
  }

  // Terms 2: "if its rest by 100 is below HABIT, it ASKS": HABIT 99 does not by a rest of 99.
  static void terms2Habit99DoesNotAskBy99() {
    CatDoors x = withOne(0, 99, 100, -1, -1, 99), y = withOne(0, 99, 100, -1, -1, 98);
    x.hours(1);
    y.hours(1);
    due.is(11, "by 99: HABIT", x.told(0, 2), 99);
    due.is(11, "by 99: WORKED", x.told(0, 4), 0);
    due.is(11, "by 98: WORKED", y.told(0, 4), 1);
  }

  // Terms 2: "(else nothing more of it)": no draw more, no paint, no habit less.
  static void terms2NotAskingEndsIt() {
    CatDoors x = withOne(0, 50, 100, -1, -1, 70);
    int z = x.count(11);
    x.rule(3, 1);
    x.hours(1);
    due.is(11, "three draws", x.count(11), Dice.after(z, 3));
    due.is(11, "the cat stays", x.house(0), 0);
  }

  // Terms 2: "if it PRESSES by more than PATIENCE": as much is not more.
  static void terms2PressesByMoreThanPatience() {
    for (int patience = 59; patience <= 61; patience++) {
      CatDoors x = withOne(0, 60, 0, -1, -1, 0);
      x.rule(0, patience);
      due.is(11, "PATIENCE " + patience, x.hours(1), patience < 60 ? 1 : 0);
      due.is(11, "HABIT", x.told(0, 2), patience < 60 ? 68 : 56);
      due.is(11, "PAINT", x.house(2), patience < 60 ? 0 : 2);
    }
  }

  // Terms 2: "if it PRESSES by more than PATIENCE": PATIENCE 0 withstands a press of 0 alone.
  static void terms2Patience0() {
    CatDoors none = withOne(1, 1, 0, -1, -1, 0), some = withOne(1, 2, 0, -1, -1, 0);
    none.rule(0, 0);
    some.rule(0, 0);
    due.is(11, "a press of 0", none.hours(1), 0);
    due.is(11, "a press of 1", some.hours(1), 1);
  }

  // Terms 2: "if it PRESSES by more than PATIENCE": PATIENCE 99 withstands HABIT 99, but no press of 100.
  static void terms2Patience99() {
    CatDoors x = withOne(0, 99, 0, -1, -1, 0), y = withOne(5, 95, 0, -1, -1, 0);
    x.rule(0, 99);
    y.rule(0, 99);
    due.is(11, "a press of 99", x.hours(1), 0);
    due.is(11, "a press of 100", y.hours(1), 1);
  }

  // Terms 2: "it PRESSES": by WET and THREAT of this hour, not of the one before.
  static void terms2PressesByTheWeatherOfThisHour() {
    CatDoors wet = withOne(2, 60, 0, -1, -1, 0), threat = withOne(3, 60, 0, -1, -1, 0);
    wet.rule(5, 1);
    threat.rule(6, 1);
    due.is(11, "WET no more", wet.hours(1), 1);
    due.is(11, "THREAT no more", threat.hours(1), 0);
    CatDoors rainy = withOne(2, 60, 0, -1, -1, 0), tom = withOne(3, 60, 0, -1, -1, 0);
    rainy.rule(1, 100);
    tom.rule(2, 100);
    due.is(11, "WET now", rainy.hours(1), 0);
    due.is(11, "a THREAT now", tom.hours(1), 1);
  }

  // Terms 2: "one gets up (RISINGS 1 more, WORKED 1 more, HABIT by what it LEARNS more ...)": for each KIND.
  static void terms2OneGetsUpByKinds() {
    int[] learns = {8, 3, 8, 12, 16, 15};
    for (int kind = 0; kind < 6; kind++) {
      CatDoors x = withOne(kind, 60, 0, -1, -1, 0);
      x.rule(0, 10);
      due.is(11, "KIND " + kind + ": RISINGS", x.hours(1), 1);
      due.is(11, "WORKED", x.told(0, 4), 1);
      due.is(11, "HABIT", x.told(0, 2), 60 + learns[kind]);
      due.is(11, "PAINT", x.house(2), 0);
    }
  }

  // Terms 2: "HABIT by what it LEARNS more, 99 at most".
  static void terms2HabitIs99AtMost() {
    for (int habit : new int[] {90, 91, 92, 99}) {
      CatDoors x = withOne(0, habit, 0, -1, -1, 0);
      x.hours(1);
      due.is(11, "from " + habit, x.told(0, 2), Math.min(99, habit + 8));
    }
  }

  // Terms 2: "else PAINT is more by what it SCRATCHES, and HABIT less by what it FORGETS": for each KIND.
  static void terms2NobodyGetsUpByKinds() {
    int[] forgets = {4, 6, 4, 6, 1, 9}, scratches = {2, 0, 2, 7, 3, 1};
    for (int kind = 0; kind < 6; kind++) {
      CatDoors x = withOne(kind, 60, 100, -1, -1, 0);
      int z = x.count(11);
      x.rule(0, 99);
      due.is(11, "KIND " + kind + ": RISINGS", x.hours(1), 0);
      due.is(11, "PAINT", x.house(2), scratches[kind]);
      due.is(11, "HABIT", x.told(0, 2), 60 - forgets[kind]);
      due.is(11, "WORKED", x.told(0, 4), 0);
      due.is(11, "no draw more", x.count(11), Dice.after(z, 3));
    }
  }

  // Terms 2: "HABIT less by what it FORGETS (0 at least)".
  static void terms2HabitIs0AtLeast() {
    for (int habit : new int[] {1, 3, 4, 5}) {
      CatDoors x = withOne(0, habit, 0, -1, -1, 0);
      x.hours(1);
      due.is(11, "from " + habit, x.told(0, 2), Math.max(0, habit - 4));
    }
  }

  // Terms 2: "the CAT goes, if it MEANS IT, a draw likewise": at MEANS and one below.
  static void terms2GoesBelowMeans() {
    CatDoors at = withOne(0, 60, 40, -1, -1, 0, 40), below = withOne(0, 60, 41, -1, -1, 0, 40);
    at.hours(1);
    below.hours(1);
    due.is(11, "40 by 40", at.house(0), 0);
    due.is(11, "40 by 41", below.house(0), 1);
  }

  // Terms 2: "if it MEANS IT": 0 never, 100 always; a draw is made all the same.
  static void terms2GoesNeverAndAlways() {
    CatDoors never = withOne(0, 60, 0, -1, -1, 0, 0), always = withOne(0, 60, 100, -1, -1, 0, 99);
    int first = never.count(11), second = always.count(11);
    never.hours(1);
    always.hours(1);
    due.is(11, "MEANS 0", never.house(0), 0);
    due.is(11, "MEANS 100", always.house(0), 1);
    due.is(11, "four draws", never.count(11), Dice.after(first, 4));
    due.is(11, "four draws", always.count(11), Dice.after(second, 4));
  }

  // Terms 2: "MEANS IT": by where the CAT is, and by the weather of this hour.
  static void terms2MeansItByThisHour() {
    CatDoors rained = withOne(2, 99, 100, -1, -1, 0, 10), out = withOne(3, 99, 0, -1, -1, 0, 99);
    rained.rule(1, 100);
    rained.hours(1);
    due.is(11, "WET and IN: 10 by 10", rained.house(0), 0);
    out.rule(4, 1);
    out.rule(0, 0);
    out.hours(1);
    due.is(11, "FRIGHTENED and OUT", out.house(0), 0);
    due.is(11, "CAME", out.house(4), 1);
  }

  // Terms 2: "with a FLAP the CAT goes, if it MEANS IT (a draw, its rest by 100 below that ...)": at MEANS and one below.
  static void terms2FlapGoesBelowMeans() {
    CatDoors at = withOne(0, 60, 40, -1, -1, 0, 40), below = withOne(0, 60, 41, -1, -1, 0, 40);
    at.rule(3, 1);
    below.rule(3, 1);
    at.hours(1);
    below.hours(1);
    due.is(11, "40 by 40", at.house(0), 0);
    due.is(11, "40 by 41", below.house(0), 1);
    due.is(11, "LEFT", below.house(3), 1);
  }

  // Terms 2: "with a FLAP ... nobody gets up; no HABIT changes": whether it presses enough or not.
  static void terms2FlapNobodyGetsUp() {
    for (int patience : new int[] {0, 99}) {
      CatDoors x = withOne(0, 60, 100, -1, -1, 0);
      x.rule(0, patience);
      x.rule(3, 1);
      due.is(11, "RISINGS", x.hours(1), 0);
      due.is(11, "WORKED", x.told(0, 4), 0);
      due.is(11, "HABIT", x.told(0, 2), 60);
      due.is(11, "PAINT", x.house(2), 0);
    }
  }

  // Terms 2: "GOES: from IN it is OUT (LEFT 1 more), from OUT it is IN (CAME 1 more)."
  static void terms2GoesOutAndIn() {
    CatDoors x = withOne(0, 60, 100);
    x.opens(0);
    due.is(8, "OUT", x.house(0), 1);
    due.is(8, "LEFT", x.house(3), 1);
    due.is(8, "CAME", x.house(4), 0);
    x.opens(0);
    due.is(8, "IN", x.house(0), 0);
    due.is(8, "LEFT", x.house(3), 1);
    due.is(8, "CAME", x.house(4), 1);
    due.is(8, "no STRANGERS", x.house(5), 0);
  }

  // Terms 2: "ASKINGS by numbers": one that goes first changes where the CAT is for the next of the same hour.
  static void terms2AskingsOfOneHourByNumbers() {
    CatDoors x = withOne(0, 99, 100, -1, -1, 0, -1, 0, 99);
    x.asking(3, 0, 99, 0);
    x.rule(0, 0);
    due.is(11, "both work", x.hours(1), 2);
    due.is(11, "the second was OUT, and came", x.house(4), 1);
    CatDoors y = new CatDoors();
    y.asking(3, 0, 99, 0);
    y.asking(0, 0, 99, 100);
    y.rule(0, 0);
    y.rule(1, 0);
    y.rule(2, 0);
    y.seed(Dice.seed(-1, -1, 0, 99, 0, 99));
    due.is(11, "both work", y.hours(1), 2);
    due.is(11, "the first was IN, and stayed", y.house(4), 0);
    due.is(11, "the second left", y.house(3), 1);
  }

  // Terms 2: an asking asks once an hour, also when what it learned would let it ask again.
  static void terms2OnceAnHour() {
    CatDoors x = withOne(0, 99, 0, -1, -1, 0);
    due.is(11, "RISINGS", x.hours(1), 1);
    due.is(11, "WORKED", x.told(0, 4), 1);
  }

  // ---- Terms, part 2: (3) strangers, the hour

  private static int strangers(int flap, int tom) {
    CatDoors x = new CatDoors();
    x.rule(2, tom);
    x.rule(3, flap);
    x.rule(6, 1);
    x.hours(1);
    due.is(11, "none left", x.house(3), 0);
    due.is(11, "none came", x.house(4), 0);
    return x.house(5);
  }

  // Terms 2: "With a FLAP and a THREAT STRANGERS are 1 more": with both alone, and by the THREAT of this hour.
  static void terms2StrangersWithBothAlone() {
    due.is(11, "both", strangers(1, 100), 1);
    due.is(11, "a FLAP alone", strangers(1, 0), 0);
    due.is(11, "a THREAT alone", strangers(0, 100), 0);
    due.is(11, "neither", strangers(0, 0), 0);
  }

  // Terms 2: "THE HOUR is 1 more.": of each of n.
  static void terms2TheHourIsOneMore() {
    CatDoors x = new CatDoors();
    x.hours(1);
    due.is(11, "behind one", x.count(1), 1);
    x.hours(100);
    due.is(11, "behind a hundred more", x.count(1), 101);
  }

  // Terms 2: "z is told (1 at first)."
  static void terms2ZIs1AtFirst() {
    due.is(41, "count(11)", new CatDoors().count(11), 1);
  }

  // ---- Promises 11 and 12

  private static CatDoors lived() {
    CatDoors x = new CatDoors();
    x.deal(5);
    x.keep();
    x.tell(7);
    x.feed(1, 2, 3);
    x.lay(0, 1, 0);
    x.hours(30);
    return x;
  }

  // Promise 11: "n (1 .. 100) HOURS. BAD.": 0, 101 and far out.
  static void promise11BadN() {
    for (int n : new int[] {0, 101, -1, LOW, HIGH}) due.refuses(11, "hours(" + n + ")", EdgesHoursTest::lived, x -> x.hours(n), BAD);
  }

  // Promise 11: "n (1 .. 100) HOURS": both ends.
  static void promise11EndsOfN() {
    CatDoors x = new CatDoors();
    due.is(11, "hours(1)", x.hours(1), 0);
    due.is(11, "hours(100)", x.hours(100), 0);
    due.is(11, "202 draws", x.count(11), Dice.after(1, 202));
  }

  // Promise 11: "(no more than up to 9999)": fewer pass, and no more are drawn for.
  static void promise11NoMoreThanUpTo9999() {
    CatDoors x = lateBy(9996);
    int z = x.count(11);
    due.is(11, "hours(100)", x.hours(100), 0);
    due.is(11, "THE HOUR", x.count(1), 9999);
    due.is(11, "six draws", x.count(11), Dice.after(z, 6));
  }

  // Promise 11: "(no more than up to 9999)": exactly up to it.
  static void promise11JustUpTo9999() {
    CatDoors x = lateBy(9996);
    int z = x.count(11);
    x.hours(3);
    due.is(11, "THE HOUR", x.count(1), 9999);
    due.is(11, "six draws", x.count(11), Dice.after(z, 6));
  }

  // Promise 11: "(no more than up to 9999)": at 9999 none pass, nothing changes; it is no refusal.
  static void promise11NoneAt9999() {
    due.refuses(11, "hours(100) at 9999", () -> lateBy(9999), x -> x.hours(100), 0);
    due.refuses(11, "hours(0) at 9999", () -> lateBy(9999), x -> x.hours(0), BAD);
  }

  // Promise 11: "RISINGS in them": not those before.
  static void promise11RisingsInThem() {
    CatDoors x = withOne(0, 99, 0, -1, -1, 0);
    x.opens(0);
    x.seed(Dice.seed(-1, -1, 0));
    due.is(11, "hours(1)", x.hours(1), 1);
    due.is(11, "in all", x.house(1), 2);
    due.is(11, "none in the next", x.hours(1), 0);
  }

  // Promise 12: "What is 0 ... 7 ... BAD.": below 0 and above 7.
  static void promise12BadWhat() {
    for (int w : new int[] {-1, 8, LOW, HIGH}) due.refuses(12, "house(" + w + ")", EdgesHoursTest::lived, x -> x.house(w), BAD);
  }

  // Promise 12: "6 HABITS of all, together": none, and the most that can be.
  static void promise12HabitsTogether() {
    CatDoors x = new CatDoors();
    due.is(12, "of none", x.house(6), 0);
    for (int i = 0; i < 12; i++) x.asking(0, i, 99, 0);
    due.is(12, "of 12", x.house(6), 1188);
  }

  // Promise 12: "(0: none)": no ASKINGS, or none with any HABIT.
  static void promise12NoneComesNext() {
    CatDoors x = new CatDoors();
    due.is(12, "no ASKINGS", x.house(7), 0);
    x.asking(0, 0, 0, 100);
    due.is(12, "no HABIT", x.house(7), 0);
  }

  // Promise 12: "those with any HABIT": a HABIT of 1 counts, a sooner one of 0 does not.
  static void promise12AnyHabit() {
    CatDoors x = new CatDoors();
    x.asking(0, 0, 0, 0);
    x.asking(0, 9, 1, 0);
    due.is(12, "house(7)", x.house(7), 2);
  }

  // Promise 12: "(from THE HOUR's rest by 24 on, ...)": the hour that is now comes first of all.
  static void promise12ThisHourComesFirst() {
    CatDoors x = lateBy(24 + 5);
    x.asking(0, 6, 9, 0);
    x.asking(0, 5, 9, 0);
    x.asking(0, 4, 9, 0);
    due.is(12, "house(7)", x.house(7), 2);
    x.set(1, 2, 0);
    due.is(12, "then the next", x.house(7), 1);
  }

  // Promise 12: "(... round)": behind 23 comes 0, and the hour just gone comes last.
  static void promise12Round() {
    CatDoors x = lateBy(23);
    x.asking(0, 22, 9, 0);
    x.asking(0, 0, 9, 0);
    due.is(12, "0 comes before 22", x.house(7), 2);
    x.set(1, 2, 0);
    due.is(12, "22 comes last", x.house(7), 1);
  }

  // Promise 12: "as a set"; Terms: "Sets of ASKINGS are told by bits.": the first, the last, all 12.
  static void promise12SetsByBits() {
    CatDoors x = new CatDoors();
    for (int i = 0; i < 12; i++) x.asking(0, 7, i == 11 ? 9 : 0, 0);
    due.is(12, "the last", x.house(7), 2048);
    x.set(0, 2, 9);
    due.is(12, "the first too", x.house(7), 2049);
    for (int i = 0; i < 12; i++) x.set(i, 2, 9);
    due.is(12, "all", x.house(7), 4095);
  }

  // Promise 12: 7 at THE HOUR 9999, whose rest by 24 is 15.
  static void promise12ComesNextAt9999() {
    CatDoors x = lateBy(9999);
    x.asking(0, 14, 9, 0);
    x.asking(0, 15, 9, 0);
    x.asking(0, 16, 9, 0);
    due.is(12, "house(7)", x.house(7), 2);
  }

  public static void main(String[] args) { due.runs(EdgesHoursTest.class); }
}
