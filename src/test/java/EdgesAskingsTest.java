/** Each sentence of "Terms", part 1, and of promises 1 to 10 that names an edge: a test of its own. */
public final class EdgesAskingsTest {
  private static final int BAD = CatDoors.BAD, FULL = CatDoors.FULL, KIND = CatDoors.KIND, NONE = CatDoors.NONE, NOTHING = CatDoors.NOTHING;
  private static final int LOW = Integer.MIN_VALUE, HIGH = Integer.MAX_VALUE;
  private static final Due due = new Due("EdgesAskingsTest");

  /** So many askings, an image without them, a number that waits, a tape and a slot that is used. */
  private static CatDoors withAskings(int many) {
    CatDoors x = new CatDoors();
    x.keep();
    x.tell(7);
    x.feed(1, 2, 3);
    x.lay(0, 3, 5);
    for (int i = 0; i < many; i++) x.asking(i % 6, i, 10 + i, 20 + i);
    return x;
  }

  private static CatDoors withOne(int kind, int habit, int means) {
    CatDoors x = new CatDoors();
    x.asking(kind, 0, habit, means);
    return x;
  }

  /** An object with one asking of a kind, and a law by which it presses. */
  private static CatDoors pressing(int kind, String law) {
    CatDoors x = withOne(kind, 40, 50);
    Due.text(x, law);
    return x;
  }

  // ---- Terms, part 1

  // Terms 1: "THE CAT is IN (0; at first) or OUT (1)."
  static void terms1CatIsInAtFirst() {
    CatDoors x = new CatDoors();
    due.is(1, "house(0)", x.house(0), 0);
    due.is(7, "rule(4, 1)", x.rule(4, 1), 0);
    due.is(1, "house(0), out", x.house(0), 1);
  }

  // Terms 1: "THE CAT is IN (0; at first) or OUT (1)": no other number stands for a place.
  static void terms1CatIsNowhereElse() {
    CatDoors x = new CatDoors();
    due.is(7, "rule(4, 2)", x.rule(4, 2), BAD);
    due.is(7, "rule(4, -1)", x.rule(4, -1), BAD);
    due.is(1, "house(0)", x.house(0), 0);
  }

  // Terms 1: "ASKINGS, 12 at most".
  static void terms1TwelveAskingsAtMost() {
    CatDoors x = withAskings(11);
    due.is(2, "the 12th", x.asking(0, 0, 0, 0), 11);
    due.is(2, "the 13th", x.asking(0, 0, 0, 0), FULL);
    due.is(41, "count(0)", x.count(0), 12);
  }

  // Terms 1: "numbered from 0".
  static void terms1AskingsAreNumberedFromZero() {
    CatDoors x = new CatDoors();
    due.is(2, "the first", x.asking(0, 1, 2, 3), 0);
    due.is(2, "the second", x.asking(0, 4, 5, 6), 1);
    due.is(3, "told(0, 1)", x.told(0, 1), 1);
    due.is(3, "told(1, 1)", x.told(1, 1), 4);
  }

  // Terms 1: "HOUR 0 .. 23".
  static void terms1HourIs0To23() {
    CatDoors x = new CatDoors();
    due.is(2, "HOUR 0", x.asking(0, 0, 0, 0), 0);
    due.is(2, "HOUR 23", x.asking(0, 23, 0, 0), 1);
    due.is(2, "HOUR 24", x.asking(0, 24, 0, 0), BAD);
    due.is(2, "HOUR -1", x.asking(0, -1, 0, 0), BAD);
    due.is(3, "told(1, 1)", x.told(1, 1), 23);
  }

  // Terms 1: "HABIT 0 .. 99".
  static void terms1HabitIs0To99() {
    CatDoors x = new CatDoors();
    due.is(2, "HABIT 0", x.asking(0, 0, 0, 0), 0);
    due.is(2, "HABIT 99", x.asking(0, 0, 99, 0), 1);
    due.is(2, "HABIT 100", x.asking(0, 0, 100, 0), BAD);
    due.is(2, "HABIT -1", x.asking(0, 0, -1, 0), BAD);
    due.is(3, "told(1, 2)", x.told(1, 2), 99);
  }

  // Terms 1: "MEANS 0 .. 100".
  static void terms1MeansIs0To100() {
    CatDoors x = new CatDoors();
    due.is(2, "MEANS 0", x.asking(0, 0, 0, 0), 0);
    due.is(2, "MEANS 100", x.asking(0, 0, 0, 100), 1);
    due.is(2, "MEANS 101", x.asking(0, 0, 0, 101), BAD);
    due.is(2, "MEANS -1", x.asking(0, 0, 0, -1), BAD);
    due.is(3, "told(1, 3)", x.told(1, 3), 100);
  }

  // Terms 1: "WORKED (how often it worked; 0 at first)": also where an asking stood that had worked and is gone.
  static void terms1WorkedIsZeroAtFirst() {
    CatDoors x = new CatDoors();
    x.keep();
    x.asking(0, 0, 10, 0);
    due.is(3, "told(0, 4)", x.told(0, 4), 0);
    x.opens(0);
    due.is(3, "told(0, 4), it worked", x.told(0, 4), 1);
    x.back();
    x.asking(0, 0, 10, 0);
    due.is(3, "told(0, 4) of a new one", x.told(0, 4), 0);
    x.opens(0);
    x.back();
    x.deal(1);
    due.is(3, "told(0, 4) of a drawn one", x.told(0, 4), 0);
  }

  // Terms 1: "of KINDS: 0 ASKING; ... 5 FEIGNED": from 0 to 5 and no more.
  static void terms1KindsAre0To5() {
    CatDoors x = new CatDoors();
    for (int kind = 0; kind < 6; kind++) due.is(2, "KIND " + kind, x.asking(kind, 0, 0, 0), kind);
    due.is(2, "KIND 6", x.asking(6, 0, 0, 0), BAD);
    due.is(2, "KIND -1", x.asking(-1, 0, 0, 0), BAD);
    for (int kind = 0; kind < 6; kind++) due.is(3, "told(" + kind + ", 0)", x.told(kind, 0), kind);
  }

  // Terms 1: "1 TURNED, 2 RAINED, 5 FEIGNED, under ASKING; 3 FRIGHTENED, under TURNED; 4 DAWN, under RAINED (all are ASKINGS)".
  static void terms1KindsUnderOneAnother() {
    CatDoors x = new CatDoors();
    for (int kind = 0; kind < 6; kind++) x.asking(kind, 0, 7, 0);
    String[] under = {"100000", "110000", "101000", "110100", "101010", "100001"};
    for (int a = 0; a < 6; a++) for (int k = 0; k < 6; k++) due.is(4, "as(" + a + ", " + k + ")", x.as(a, k), under[a].charAt(k) == '1' ? 7 : KIND);
  }

  // Terms 1: "PATIENCE 0 .. 99 (50 at first)".
  static void terms1PatienceIs0To99And50AtFirst() {
    CatDoors x = new CatDoors();
    due.is(7, "rule(0, 99)", x.rule(0, 99), 50);
    due.is(7, "rule(0, 100)", x.rule(0, 100), BAD);
    due.is(7, "rule(0, 0)", x.rule(0, 0), 99);
    due.is(7, "rule(0, -1)", x.rule(0, -1), BAD);
    due.is(41, "count(2)", x.count(2), 0);
  }

  // Terms 1: "RAIN 0 .. 100 (20)".
  static void terms1RainIs0To100And20AtFirst() {
    CatDoors x = new CatDoors();
    due.is(7, "rule(1, 100)", x.rule(1, 100), 20);
    due.is(7, "rule(1, 101)", x.rule(1, 101), BAD);
    due.is(7, "rule(1, 0)", x.rule(1, 0), 100);
    due.is(7, "rule(1, -1)", x.rule(1, -1), BAD);
    due.is(41, "count(3)", x.count(3), 0);
  }

  // Terms 1: "TOM 0 .. 100 (10)".
  static void terms1TomIs0To100And10AtFirst() {
    CatDoors x = new CatDoors();
    due.is(7, "rule(2, 100)", x.rule(2, 100), 10);
    due.is(7, "rule(2, 101)", x.rule(2, 101), BAD);
    due.is(7, "rule(2, 0)", x.rule(2, 0), 100);
    due.is(7, "rule(2, -1)", x.rule(2, -1), BAD);
    due.is(41, "count(4)", x.count(4), 0);
  }

  // Terms 1: "FLAP 0 (none; at first) or 1".
  static void terms1FlapIsNoneAtFirstOr1() {
    CatDoors x = new CatDoors();
    due.is(7, "rule(3, 1)", x.rule(3, 1), 0);
    due.is(7, "rule(3, 2)", x.rule(3, 2), BAD);
    due.is(7, "rule(3, -1)", x.rule(3, -1), BAD);
    due.is(41, "count(5)", x.count(5), 1);
  }

  // Terms 1: "WET 0, 1, THREAT 0, 1 (both of the latest hour; 0 at first)": their numbers.
  static void terms1WetAndThreatAre0Or1() {
    CatDoors x = new CatDoors();
    for (int what = 5; what <= 6; what++) {
      due.is(7, "rule(" + what + ", 1)", x.rule(what, 1), 0);
      due.is(7, "rule(" + what + ", 2)", x.rule(what, 2), BAD);
      due.is(7, "rule(" + what + ", -1)", x.rule(what, -1), BAD);
      due.is(41, "count", x.count(what + 1), 1);
    }
  }

  // Terms 1: "WET 0, 1, THREAT 0, 1 (both of the latest hour; ...)": an hour before it does not count.
  static void terms1WetAndThreatAreOfTheLatestHour() {
    CatDoors x = new CatDoors();
    x.rule(1, 100);
    x.rule(2, 100);
    x.hours(1);
    due.is(11, "WET", x.count(6), 1);
    due.is(11, "THREAT", x.count(7), 1);
    x.rule(1, 0);
    x.rule(2, 0);
    due.is(11, "WET still", x.count(6), 1);
    x.hours(1);
    due.is(11, "WET no more", x.count(6), 0);
    due.is(11, "THREAT no more", x.count(7), 0);
  }

  // Terms 1: "RISINGS, PAINT (scratched off), LEFT, CAME, STRANGERS are 0 at first".
  static void terms1TalliesAreZeroAtFirst() {
    CatDoors x = new CatDoors();
    for (int what = 1; what <= 5; what++) due.is(1, "house(" + what + ")", x.house(what), 0);
  }

  // Terms 1: "THE HOUR is 0 at first, 9999 at most."
  static void terms1TheHourIs9999AtMost() {
    CatDoors x = new CatDoors();
    due.is(1, "count(1)", x.count(1), 0);
    for (int i = 0; i < 99; i++) x.hours(100);
    x.hours(98);
    due.is(11, "count(1)", x.count(1), 9998);
    x.hours(100);
    due.is(11, "count(1), the most", x.count(1), 9999);
    x.hours(1);
    due.is(11, "count(1), no more", x.count(1), 9999);
  }

  // Terms 1, PRESSES: "ASKING: what press gives, held within 0 .. 199": above.
  static void terms1PressIsHeldTo199() {
    due.is(3, "press 198", pressing(0, "press 198").told(0, 5), 198);
    due.is(3, "press 199", pressing(0, "press 199").told(0, 5), 199);
    due.is(3, "press 200", pressing(0, "press 200").told(0, 5), 199);
    due.is(3, "a great one", pressing(0, "press 9999*9999").told(0, 5), 199);
  }

  // Terms 1, PRESSES: "ASKING: what press gives, held within 0 .. 199": below.
  static void terms1PressIsHeldTo0() {
    due.is(3, "press 1", pressing(0, "press 1").told(0, 5), 1);
    due.is(3, "press 0", pressing(0, "press 0").told(0, 5), 0);
    due.is(3, "press 0-1", pressing(0, "press 0-1").told(0, 5), 0);
    due.is(3, "one that wrapped", pressing(0, "press 2048*1024*1024").told(0, 5), 0);
  }

  // Terms 1, PRESSES: "(without a TEXT: HABIT)": at both ends of HABIT, and with texts of other keys.
  static void terms1PressWithoutATextIsHabit() {
    CatDoors x = withOne(0, 99, 0);
    Due.text(x, "fee 7");
    Due.text(x, "fine 8");
    due.is(3, "told(0, 5)", x.told(0, 5), 99);
    x.set(0, 2, 0);
    due.is(3, "told(0, 5) of 0", x.told(0, 5), 0);
  }

  // Terms 1, PRESSES: "TURNED: half (cut) of as ASKING": of what is held, and odd ones.
  static void terms1TurnedPressesHalfCut() {
    due.is(3, "half of 200, held to 199", pressing(1, "press 200").told(0, 5), 99);
    due.is(3, "half of 51", pressing(1, "press 51").told(0, 5), 25);
    due.is(3, "half of 1", pressing(1, "press 1").told(0, 5), 0);
    due.is(3, "half of -3, held to 0", pressing(1, "press 0-3").told(0, 5), 0);
  }

  // Terms 1, PRESSES: "FRIGHTENED: as TURNED, and 60, if there is a THREAT."
  static void terms1FrightenedPressesMoreUnderThreatAlone() {
    CatDoors x = withOne(3, 99, 0);
    due.is(3, "no THREAT", x.told(0, 5), 49);
    x.rule(5, 1);
    due.is(3, "WET is no THREAT", x.told(0, 5), 49);
    x.rule(6, 1);
    due.is(3, "a THREAT", x.told(0, 5), 109);
    Due.text(x, "press 9999");
    due.is(3, "not held again", x.told(0, 5), 159);
  }

  // Terms 1, PRESSES: "RAINED: as ASKING, less 20, if it is WET (0 at least)."
  static void terms1RainedPressesZeroAtLeast() {
    CatDoors x = withOne(2, 21, 0);
    due.is(3, "not WET", x.told(0, 5), 21);
    x.rule(5, 1);
    int[][] pairs = {{21, 1}, {20, 0}, {19, 0}, {0, 0}, {99, 79}};
    for (int[] p : pairs) {
      x.set(0, 2, p[0]);
      due.is(3, "WET, HABIT " + p[0], x.told(0, 5), p[1]);
    }
  }

  // Terms 1, PRESSES: "DAWN: as RAINED, and 30": on top of RAINED's 0 at least, and above 199.
  static void terms1DawnPressesThirtyAboveRained() {
    CatDoors x = withOne(4, 5, 0);
    due.is(3, "not WET", x.told(0, 5), 35);
    x.rule(5, 1);
    due.is(3, "WET", x.told(0, 5), 30);
    Due.text(x, "press 9999");
    due.is(3, "WET, the most", x.told(0, 5), 209);
    x.rule(5, 0);
    due.is(3, "the most", x.told(0, 5), 229);
  }

  // Terms 1, PRESSES: "FEIGNED: as ASKING, and 5": from the lowest to above 199.
  static void terms1FeignedPressesFiveMore() {
    due.is(3, "of 0", pressing(5, "press 0-9").told(0, 5), 5);
    due.is(3, "of 199", pressing(5, "press 9999").told(0, 5), 204);
  }

  private static void column(int what, int... dues) {
    for (int kind = 0; kind < 6; kind++) due.is(3, "KIND " + kind + ": told(0, " + what + ")", withOne(kind, 40, 50).told(0, what), dues[kind]);
  }

  // Terms 1, LEARNS: "ASKING: 8. TURNED: 3. FRIGHTENED: as TURNED, and 9. DAWN: twice as RAINED. FEIGNED: 15." RAINED is not named.
  static void terms1LearnsByKinds() { column(6, 8, 3, 8, 12, 16, 15); }

  // Terms 1, FORGETS: "ASKING: 4. TURNED: 6. DAWN: 1. FEIGNED: 9." RAINED and FRIGHTENED are not named.
  static void terms1ForgetsByKinds() { column(7, 4, 6, 4, 6, 1, 9); }

  // Terms 1, SCRATCHES: "ASKING: 2. TURNED: 0. FRIGHTENED: as TURNED, and 7. DAWN: as RAINED, and 1. FEIGNED: 1." RAINED is not named.
  static void terms1ScratchesByKinds() { column(8, 2, 0, 2, 7, 3, 1); }

  // Terms 1: "(A KIND that is not named does as the one above it.)": RAINED learns, forgets, scratches as ASKING, FRIGHTENED forgets as TURNED.
  static void terms1KindNotNamedDoesAsTheOneAbove() {
    CatDoors x = withOne(2, 40, 50), plain = withOne(0, 40, 50), y = withOne(3, 40, 50), turned = withOne(1, 40, 50);
    for (int what = 6; what <= 8; what++) due.is(3, "RAINED: told(0, " + what + ")", x.told(0, what), plain.told(0, what));
    due.is(3, "FRIGHTENED: told(0, 7)", y.told(0, 7), turned.told(0, 7));
  }

  // Terms 1, MEANS IT: "ASKING: MEANS": both ends.
  static void terms1AskingMeansItByMeans() {
    due.is(3, "MEANS 0", withOne(0, 9, 0).told(0, 9), 0);
    due.is(3, "MEANS 100", withOne(0, 9, 100).told(0, 9), 100);
  }

  // Terms 1, MEANS IT: "TURNED: half (cut) of as ASKING."
  static void terms1TurnedMeansItByHalfCut() {
    due.is(3, "MEANS 1", withOne(1, 9, 1).told(0, 9), 0);
    due.is(3, "MEANS 99", withOne(1, 9, 99).told(0, 9), 49);
    due.is(3, "MEANS 100", withOne(1, 9, 100).told(0, 9), 50);
  }

  // Terms 1, MEANS IT: "FRIGHTENED: 100, if the CAT is OUT, else as TURNED."
  static void terms1FrightenedMeansItWhenOut() {
    CatDoors x = withOne(3, 9, 99);
    due.is(3, "IN", x.told(0, 9), 49);
    x.rule(6, 1);
    due.is(3, "IN, a THREAT", x.told(0, 9), 49);
    x.set(0, 3, 1);
    due.is(3, "IN, MEANS 1", x.told(0, 9), 0);
    x.rule(4, 1);
    due.is(3, "OUT", x.told(0, 9), 100);
  }

  // Terms 1, MEANS IT: "RAINED: as ASKING, but 10, if it is WET and the CAT is IN.": 10 also where MEANS is less.
  static void terms1RainedMeansItTenWhenWetAndIn() {
    CatDoors x = withOne(2, 9, 3);
    due.is(3, "dry, IN", x.told(0, 9), 3);
    x.rule(5, 1);
    due.is(3, "WET, IN", x.told(0, 9), 10);
    x.set(0, 3, 100);
    due.is(3, "WET, IN, MEANS 100", x.told(0, 9), 10);
    x.rule(4, 1);
    due.is(3, "WET, OUT", x.told(0, 9), 100);
    x.rule(5, 0);
    due.is(3, "dry, OUT", x.told(0, 9), 100);
  }

  // Terms 1, MEANS IT: "FEIGNED: 0."
  static void terms1FeignedNeverMeansIt() {
    CatDoors x = withOne(5, 99, 100);
    due.is(3, "IN", x.told(0, 9), 0);
    x.rule(4, 1);
    due.is(3, "OUT", x.told(0, 9), 0);
  }

  // Terms 1, MEANS IT: "(DAWN as RAINED.)"
  static void terms1DawnMeansItAsRained() {
    CatDoors x = withOne(4, 9, 77);
    due.is(3, "dry, IN", x.told(0, 9), 77);
    x.rule(5, 1);
    due.is(3, "WET, IN", x.told(0, 9), 10);
    x.rule(4, 1);
    due.is(3, "WET, OUT", x.told(0, 9), 77);
  }

  private static void worths(int habit, int... dues) {
    for (int kind = 0; kind < 6; kind++) due.is(3, "KIND " + kind + ", HABIT " + habit + ": WORTH", withOne(kind, habit, 50).told(0, 10), dues[kind]);
  }

  // Terms 1, WORTH: every KIND with the least HABIT.
  static void terms1WorthOfHabit0() { worths(0, 0, 6, 99, 12, 91, 3); }

  // Terms 1, WORTH: every KIND with the most HABIT ("DAWN: as RAINED, less 8" goes below 0).
  static void terms1WorthOfHabit99() { worths(99, 99, 105, 0, 210, -8, 3); }

  // ---- Promises 1 to 10

  // Promise 1: "As told": everything that a new object can tell.
  static void promise1AsTold() {
    CatDoors x = new CatDoors();
    int[] counts = {0, 0, 50, 20, 10, 0, 0, 0, 0, 0, 0, 1};
    for (int what = 0; what < 12; what++) due.is(1, "count(" + what + ")", x.count(what), counts[what]);
    for (int sheet = 0; sheet < 4; sheet++) due.is(1, "reads(" + sheet + ")", x.reads(sheet), NOTHING);
    for (int slot = 0; slot < 5; slot++) due.is(1, "rest(" + slot + ", 0)", x.rest(slot, 0), NOTHING);
    for (int key = 0; key < 3; key++) due.is(1, "why(" + key + ")", x.why(key), NONE);
    due.is(1, "back()", x.back(), CatDoors.NO);
  }

  // Promise 1: "no ASKINGS": nothing is told of one.
  static void promise1NoAskings() {
    CatDoors x = new CatDoors();
    due.is(1, "told(0, 0)", x.told(0, 0), BAD);
    due.is(1, "opens(0)", x.opens(0), BAD);
    due.is(1, "fine(0)", x.fine(0), BAD);
    due.is(1, "house(6)", x.house(6), 0);
    due.is(1, "house(7)", x.house(7), 0);
  }

  // Promise 1: a new object is new, whatever another one went through.
  static void promise1ObjectsAreApart() {
    CatDoors other = withAskings(12);
    other.rule(0, 1);
    other.hours(50);
    Due.text(other, "fee 3");
    other.keep();
    CatDoors x = new CatDoors();
    due.is(1, "count(0)", x.count(0), 0);
    due.is(1, "count(2)", x.count(2), 50);
    due.is(1, "count(8)", x.count(8), 0);
    due.is(1, "back()", x.back(), CatDoors.NO);
  }

  // Promise 2: "BAD": each of the four, at both sides and far out.
  static void promise2BadAtEachSide() {
    int[] most = {5, 23, 99, 100};
    for (int which = 0; which < 4; which++) {
      for (int v : new int[] {-1, most[which] + 1, LOW, HIGH}) {
        int[] a = new int[4];
        a[which] = v;
        due.refuses(2, "asking" + java.util.Arrays.toString(a), () -> withAskings(2), x -> x.asking(a[0], a[1], a[2], a[3]), BAD);
      }
    }
  }

  // Promise 2: "FULL": the 13th changes nothing.
  static void promise2FullChangesNothing() {
    due.refuses(2, "the 13th", () -> withAskings(12), x -> x.asking(5, 23, 99, 100), FULL);
  }

  // Promise 2: "BAD; FULL.": BAD stands first.
  static void promise2BadStandsBeforeFull() {
    due.refuses(2, "a wrong 13th", () -> withAskings(12), x -> x.asking(6, 0, 0, 0), BAD);
    due.refuses(2, "a wrong 13th", () -> withAskings(12), x -> x.asking(0, 0, 0, 101), BAD);
  }

  // Promise 2: "One more ASKING: its number": there is room again behind back().
  static void promise2RoomAgainBehindBack() {
    CatDoors x = withAskings(11);
    x.keep();
    x.asking(0, 0, 0, 0);
    due.is(2, "full", x.asking(0, 0, 0, 0), FULL);
    x.back();
    due.is(2, "the 12th anew", x.asking(1, 1, 1, 1), 11);
  }

  // Promise 3: "BAD.": no such ASKING.
  static void promise3BadAsking() {
    for (int a : new int[] {-1, 3, 12, LOW, HIGH}) due.refuses(3, "told(" + a + ", 0)", () -> withAskings(3), x -> x.told(a, 0), BAD);
    due.is(3, "the last one", withAskings(3).told(2, 1), 2);
    due.is(3, "the last of 12", withAskings(12).told(11, 1), 11);
    due.is(3, "behind the last of 12", withAskings(12).told(12, 1), BAD);
  }

  // Promise 3: "what 0 KIND, ... 10 WORTH. BAD.": what below 0 and above 10.
  static void promise3BadWhat() {
    for (int w : new int[] {-1, 11, LOW, HIGH}) due.refuses(3, "told(0, " + w + ")", () -> withAskings(3), x -> x.told(0, w), BAD);
    due.is(3, "told(2, 10)", withAskings(3).told(2, 10), 87);
  }

  // Promise 4: "BAD: asking, kind".
  static void promise4BadAskingAndKind() {
    for (int a : new int[] {-1, 3, LOW, HIGH}) due.refuses(4, "as(" + a + ", 0)", () -> withAskings(3), x -> x.as(a, 0), BAD);
    for (int k : new int[] {-1, 6, LOW, HIGH}) due.refuses(4, "as(0, " + k + ")", () -> withAskings(3), x -> x.as(0, k), BAD);
  }

  // Promise 4: "KIND: it is not of that KIND, nor of one under it.": a KIND above it, beside it, and beside one above it.
  static void promise4KindRefused() {
    due.refuses(4, "ASKING as TURNED", () -> withAskings(6), x -> x.as(0, 1), KIND);
    due.refuses(4, "TURNED as FRIGHTENED", () -> withAskings(6), x -> x.as(1, 3), KIND);
    due.refuses(4, "RAINED as TURNED", () -> withAskings(6), x -> x.as(2, 1), KIND);
    due.refuses(4, "DAWN as FEIGNED", () -> withAskings(6), x -> x.as(4, 5), KIND);
    due.refuses(4, "FRIGHTENED as RAINED", () -> withAskings(6), x -> x.as(3, 2), KIND);
  }

  // Promise 4: "An ASKING as one of a KIND: HABIT": 0 and 99 too.
  static void promise4HabitAtItsEnds() {
    due.is(4, "HABIT 0", withOne(3, 0, 0).as(0, 1), 0);
    due.is(4, "HABIT 99", withOne(4, 99, 0).as(0, 0), 99);
  }

  // Promise 5: "BAD.": asking and kind.
  static void promise5Bad() {
    for (int a : new int[] {-1, 3, LOW, HIGH}) due.refuses(5, "turns(" + a + ", 0)", () -> withAskings(3), x -> x.turns(a, 0), BAD);
    for (int k : new int[] {-1, 6, LOW, HIGH}) due.refuses(5, "turns(1, " + k + ")", () -> withAskings(3), x -> x.turns(1, k), BAD);
  }

  // Promise 5: "of another KIND from now on: what it was": from any to any, itself too.
  static void promise5FromAnyToAny() {
    for (int from = 0; from < 6; from++) {
      for (int to = 0; to < 6; to++) {
        CatDoors x = withOne(from, 40, 50);
        due.is(5, "turns(0, " + to + ")", x.turns(0, to), from);
        due.is(5, "told(0, 0)", x.told(0, 0), to);
        due.is(5, "HABIT stays", x.told(0, 2), 40);
      }
    }
  }

  // Promise 6: "BAD.": asking.
  static void promise6BadAsking() {
    for (int a : new int[] {-1, 3, LOW, HIGH}) due.refuses(6, "set(" + a + ", 1, 0)", () -> withAskings(3), x -> x.set(a, 1, 0), BAD);
  }

  // Promise 6: "(what 1 .. 3)": KIND (0) and WORKED (4) are not set.
  static void promise6BadWhat() {
    for (int w : new int[] {0, 4, -1, LOW, HIGH}) due.refuses(6, "set(1, " + w + ", 0)", () -> withAskings(3), x -> x.set(1, w, 0), BAD);
  }

  // Promise 6: "HOUR, HABIT, MEANS ... becomes v. BAD.": v out of the range of each.
  static void promise6BadV() {
    int[] most = {0, 23, 99, 100};
    for (int what = 1; what <= 3; what++) {
      int w = what;
      for (int v : new int[] {-1, most[w] + 1, LOW, HIGH}) due.refuses(6, "set(1, " + w + ", " + v + ")", () -> withAskings(3), x -> x.set(1, w, v), BAD);
    }
  }

  // Promise 6: "becomes v: what it was": at both ends of each range.
  static void promise6EndsOfRanges() {
    int[] most = {0, 23, 99, 100};
    for (int w = 1; w <= 3; w++) {
      CatDoors x = withOne(0, 0, 0);
      due.is(6, "set to most", x.set(0, w, most[w]), 0);
      due.is(6, "set to least", x.set(0, w, 0), most[w]);
      due.is(6, "told", x.told(0, w), 0);
    }
  }

  // Promise 7: "(what 0 .. 3) ... (4; 0, 1) ... (5, 6; 0, 1)": what below 0 and above 6.
  static void promise7BadWhat() {
    for (int w : new int[] {-1, 7, LOW, HIGH}) due.refuses(7, "rule(" + w + ", 0)", () -> withAskings(3), x -> x.rule(w, 0), BAD);
  }

  // Promise 7: "becomes v ... BAD.": v out of the range of each.
  static void promise7BadV() {
    int[] most = {99, 100, 100, 1, 1, 1, 1};
    for (int what = 0; what < 7; what++) {
      int w = what;
      for (int v : new int[] {-1, most[w] + 1, LOW, HIGH}) due.refuses(7, "rule(" + w + ", " + v + ")", () -> withAskings(3), x -> x.rule(w, v), BAD);
    }
  }

  // Promise 7: "where the CAT is (4; 0, 1) ... becomes v": it is put there, it does not go.
  static void promise7CatIsPutAndDoesNotGo() {
    CatDoors x = new CatDoors();
    x.rule(4, 1);
    x.rule(4, 0);
    due.is(7, "LEFT", x.house(3), 0);
    due.is(7, "CAME", x.house(4), 0);
  }

  // Promise 8: "BAD.": no such ASKING, no draw for it.
  static void promise8Bad() {
    for (int a : new int[] {-1, 3, LOW, HIGH}) due.refuses(8, "opens(" + a + ")", () -> withAskings(3), x -> x.opens(a), BAD);
  }

  // Promise 8: "whatever PATIENCE is": the most PATIENCE, and no press at all.
  static void promise8WhateverPatienceIs() {
    CatDoors x = withOne(0, 0, 100);
    x.rule(0, 99);
    due.is(8, "opens(0)", x.opens(0), 1);
    due.is(8, "RISINGS", x.house(1), 1);
    due.is(8, "HABIT", x.told(0, 2), 8);
  }

  // Promise 8: "(it worked: as in an HOUR, ...)": HABIT is 99 at most.
  static void promise8HabitIs99AtMost() {
    int[] learns = {8, 3, 8, 12, 16, 15};
    for (int kind = 0; kind < 6; kind++) {
      CatDoors x = withOne(kind, 99 - learns[kind], 0);
      x.opens(0);
      due.is(8, "up to 99", x.told(0, 2), 99);
      x.opens(0);
      due.is(8, "no more than 99", x.told(0, 2), 99);
      due.is(8, "WORKED", x.told(0, 4), 2);
    }
  }

  // Promise 8: "the CAT goes, if it MEANS IT, by a draw": 0 never, 100 always; the draw is made in both.
  static void promise8MeansItNeverAndAlways() {
    CatDoors never = withOne(0, 5, 0), always = withOne(0, 5, 100);
    never.seed(Dice.seed(0));
    always.seed(Dice.seed(99));
    due.is(8, "a draw of 0, MEANS 0", never.opens(0), 0);
    due.is(8, "a draw of 99, MEANS 100", always.opens(0), 1);
    due.is(8, "one draw", never.count(11), Dice.next(Dice.seed(0)));
    due.is(8, "one draw", always.count(11), Dice.next(Dice.seed(99)));
  }

  // Promise 8: "if it MEANS IT, by a draw": a rest that is MEANS itself is not below it.
  static void promise8DrawAtMeans() {
    CatDoors at = withOne(0, 5, 42), below = withOne(0, 5, 43);
    at.seed(Dice.seed(42));
    below.seed(Dice.seed(42));
    due.is(8, "42 by 42", at.opens(0), 0);
    due.is(8, "42 by 43", below.opens(0), 1);
    due.is(8, "it goes", below.house(0), 1);
    due.is(8, "it stays", at.house(0), 0);
  }

  // Promise 8: "1 if it goes, 0": with a FLAP one gets up all the same; no STRANGERS come, no hour passes.
  static void promise8WithAFlap() {
    CatDoors x = withOne(0, 5, 100);
    x.rule(3, 1);
    x.rule(6, 1);
    due.is(8, "opens(0)", x.opens(0), 1);
    due.is(8, "RISINGS", x.house(1), 1);
    due.is(8, "HABIT", x.told(0, 2), 13);
    due.is(8, "STRANGERS", x.house(5), 0);
    due.is(8, "THE HOUR", x.count(1), 0);
  }

  // Promise 9: "n (1 .. 12)": 0, 13 and far out are BAD, and draw nothing.
  static void promise9BadN() {
    for (int n : new int[] {0, 13, -1, LOW, HIGH}) due.refuses(9, "deal(" + n + ")", () -> withAskings(3), x -> x.deal(n), BAD);
  }

  // Promise 9: "n (1 .. 12)": both ends.
  static void promise9EndsOfN() {
    CatDoors x = new CatDoors(), y = new CatDoors();
    due.is(9, "deal(1)", x.deal(1), 1);
    due.is(9, "four draws", x.count(11), Dice.after(1, 4));
    due.is(9, "deal(12)", y.deal(12), 12);
    due.is(9, "48 draws", y.count(11), Dice.after(1, 48));
  }

  // Promise 9: "as many as there is room for (no draws for others): how many came".
  static void promise9NoDrawsForThoseWithoutRoom() {
    CatDoors x = withAskings(10);
    due.is(9, "deal(12), room for two", x.deal(12), 2);
    due.is(9, "eight draws", x.count(11), Dice.after(1, 8));
    due.is(9, "count(0)", x.count(0), 12);
  }

  // Promise 9: "as many as there is room for": none is no refusal.
  static void promise9NoRoomAtAll() {
    due.refuses(9, "deal(12), no room", () -> withAskings(12), x -> x.deal(12), 0);
    due.refuses(9, "deal(13), no room", () -> withAskings(12), x -> x.deal(13), BAD);
  }

  // Terms 2, promise 9: "KIND the rest of a draw by 6, HOUR that of one more by 24, HABIT that of one more by 100, MEANS that of one more by 101."
  static void promise9RestsOfDraws() {
    int z = -77;
    CatDoors x = new CatDoors();
    x.seed(z);
    x.deal(12);
    int[] by = {6, 24, 100, 101};
    for (int a = 0; a < 12; a++) {
      for (int what = 0; what < 4; what++) {
        z = Dice.next(z);
        due.is(9, "told(" + a + ", " + what + ")", x.told(a, what), Dice.rest(z, by[what]));
      }
    }
  }

  // Terms 2, promise 9: "MEANS that of one more by 101": 100 can come, and does.
  static void promise9MeansOf100() {
    int seed = 0;
    while (Dice.rest(Dice.after(seed, 4), 101) != 100) seed++;
    CatDoors x = new CatDoors();
    x.seed(seed);
    x.deal(1);
    due.is(9, "told(0, 3)", x.told(0, 3), 100);
  }

  // Promise 10: "z becomes v: what it was": any int, the ends too; nothing is refused.
  static void promise10AnyInt() {
    CatDoors x = new CatDoors();
    int was = 1;
    for (int v : new int[] {LOW, HIGH, 0, -1, BAD, NONE}) {
      due.is(10, "seed(" + v + ")", x.seed(v), was);
      due.is(10, "count(11)", x.count(11), v);
      was = v;
    }
  }

  public static void main(String[] args) { due.runs(EdgesAskingsTest.class); }
}
