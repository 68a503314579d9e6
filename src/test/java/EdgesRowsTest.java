import java.lang.reflect.Method;
import java.lang.reflect.Modifier;

/** Each sentence of the face, of "Terms", part 5, on images, and of promises 37 to 41 that names an edge: a test of its own. */
public final class EdgesRowsTest {
  private static final int BAD = CatDoors.BAD, NO = CatDoors.NO, FULL = CatDoors.FULL, NONE = CatDoors.NONE;
  private static final int LOW = Integer.MIN_VALUE, HIGH = Integer.MAX_VALUE;
  private static final Due due = new Due("EdgesRowsTest");

  private static CatDoors dealt() {
    CatDoors x = new CatDoors();
    x.seed(11);
    x.deal(9);
    x.rule(0, 30);
    x.hours(7);
    return x;
  }

  private static CatDoors kept() {
    CatDoors x = dealt();
    x.keep();
    return x;
  }

  /** HABITS of all and RISINGS behind each of n hours, as they come when they pass. */
  private static int[] rows(CatDoors x, int n) {
    int[] rows = new int[2 * n];
    for (int i = 0; i < n; i++) {
      x.hours(1);
      rows[2 * i] = x.house(6);
      rows[2 * i + 1] = x.house(1);
    }
    return rows;
  }

  private static int checked(CatDoors x, int[] rows, int many, int n) {
    for (int i = 0; i < many; i++) x.tell(i < rows.length ? rows[i] : 0);
    return x.check(n);
  }

  private static CatDoors keptAt(int hour) {
    CatDoors x = new CatDoors();
    for (int left = hour; left > 0; left -= 100) x.hours(Math.min(left, 100));
    x.seed(5);
    x.asking(0, 14, 99, 0);
    x.asking(0, 13, 99, 0);
    x.keep();
    return x;
  }

  private static CatDoors withWaiting(int many) {
    CatDoors x = kept();
    for (int i = 0; i < many; i++) x.tell(i);
    return x;
  }

  // ---- The public face

  // The public face: "BAD = -1000000001, NO = -1000000002, FULL = -1000000003, NONE = -1000000005, NOTHING = -1000000011, KIND = -1000000012, INDEX = -1000000013, SIZE = -1000000014".
  static void faceConstants() {
    due.is(1, "BAD", CatDoors.BAD, -1000000001);
    due.is(1, "NO", CatDoors.NO, -1000000002);
    due.is(1, "FULL", CatDoors.FULL, -1000000003);
    due.is(1, "NONE", CatDoors.NONE, -1000000005);
    due.is(1, "NOTHING", CatDoors.NOTHING, -1000000011);
    due.is(1, "KIND", CatDoors.KIND, -1000000012);
    due.is(1, "INDEX", CatDoors.INDEX, -1000000013);
    due.is(1, "SIZE", CatDoors.SIZE, -1000000014);
  }

  // What it is: "An object is used for at most 512 calls after it has been made": the 512th answers as the first.
  static void faceFiveHundredAndTwelveCalls() {
    CatDoors x = new CatDoors();
    for (int call = 1; call <= 504; call++) x.hours(1);
    for (int call = 505; call <= 511; call++) x.deal(12);
    due.is(41, "the 512th call", x.count(1), 504);
  }

  // What it is: 512 calls of the dearest kinds are made within the time of a test.
  static void faceDearCalls() {
    CatDoors x = new CatDoors();
    x.deal(12);
    Due.text(x, "press " + "h+m-w*".repeat(14) + "h");
    for (int call = 0; call < 480; call++) due.holds(15, "firm(48, 0)", x.firm(48, 0) >= 0);
  }

  // ---- any ints, in any state: no call throws, and every refusal is one of the face

  private static final int[] ODD = {LOW, LOW + 1, -100001, -1, 0, 1, 2, 5, 12, 23, 24, 99, 100, 101, 300, 9999, 10000, 99999, 100000, HIGH - 1, HIGH, BAD, NONE};

  private static CatDoors full() {
    CatDoors x = new CatDoors();
    x.deal(12);
    for (int i = 0; i < 14; i++) Due.text(x, "fee " + i);
    for (int i = 0; i < 60; i++) x.tell(i);
    for (int i = 0; i < 8; i++) x.feed(-1, -1, -1);
    for (int i = 0; i < 4; i++) x.sheet(i, i % 2, 24);
    for (int i = 0; i < 5; i++) x.lay(i, 1 + i % 3, i % 4);
    x.keep();
    return x;
  }

  private static void anyInts(java.util.function.Supplier<CatDoors> maker) {
    for (Method m : CatDoors.class.getDeclaredMethods()) {
      if (!Modifier.isPublic(m.getModifiers())) continue;
      int places = m.getParameterCount();
      for (int which = 0; which < Math.max(1, places); which++) {
        CatDoors x = maker.get();
        for (int v : ODD) for (int other : new int[] {0, v}) {
          Object[] args = new Object[places];
          for (int i = 0; i < places; i++) args[i] = i == which ? v : other;
          try {
            m.invoke(x, args);
          } catch (ReflectiveOperationException e) {
            due.holds(1, m.getName() + java.util.Arrays.toString(args) + " threw " + e.getCause(), false);
          }
        }
      }
    }
  }

  // LANGUAGE.md 7, for promises 2 to 41: no call throws for any arguments, when there is nothing yet.
  static void faceAnyIntsOfANewObject() { anyInts(CatDoors::new); }

  // LANGUAGE.md 7, for promises 2 to 41: no call throws for any arguments, when all is full.
  static void faceAnyIntsOfAFullObject() { anyInts(EdgesRowsTest::full); }

  // LANGUAGE.md 7, for promises 2 to 41: no call throws for any arguments, at THE HOUR 9999.
  static void faceAnyIntsAtTheLastHour() { anyInts(() -> keptAt(9999)); }

  // ---- Terms, part 5: images

  // Terms 5: "AN IMAGE keeps all but ...": each part of it by itself.
  static void terms5ImageKeepsAll() {
    String before = Due.looks(kept());
    java.util.List<java.util.function.Consumer<CatDoors>> deeds = java.util.List.of(
        x -> x.asking(0, 0, 0, 0), x -> x.turns(0, 5 - x.told(0, 0)), x -> x.set(0, 1, 23 - x.told(0, 1)), x -> x.set(0, 2, 99 - x.told(0, 2)), x -> x.set(0, 3, 100 - x.told(0, 3)),
        x -> x.rule(0, 31), x -> x.rule(1, 21), x -> x.rule(2, 11), x -> x.rule(3, 1), x -> x.rule(4, 1 - x.house(0)), x -> x.rule(5, 1 - x.count(6)), x -> x.rule(6, 1 - x.count(7)),
        x -> x.opens(8), x -> x.deal(3), x -> x.seed(5), x -> x.hours(50), x -> Due.text(x, "press 1"), x -> Due.text(x, "fee 1"), x -> Due.text(x, "fine 1"));
    for (int i = 0; i < deeds.size(); i++) {
      CatDoors x = kept();
      deeds.get(i).accept(x);
      due.holds(40, "deed " + i + " is seen", !before.equals(Due.looks(x)));
      x.back();
      due.holds(40, "deed " + i + " is undone", before.equals(Due.looks(x)));
    }
  }

  // Terms 5: "all but SHEETS": they stay as they are.
  static void terms5ImageKeepsNoSheets() {
    CatDoors x = dealt();
    x.sheet(0, 0, 2);
    x.keep();
    x.mark(0, 1, 8);
    x.sheet(1, 1, 1);
    x.back();
    x.lay(0, 2, 0);
    due.is(40, "marked since", x.item(0, 1), 8);
    due.is(40, "made since", x.mark(1, 0, NONE), 1);
    x.sheet(0, -1, 0);
    x.back();
    due.is(40, "MISSING since", x.mark(0, 0, 0), CatDoors.NOTHING);
  }

  // Terms 5: "all but ... SLOTS": they stay as they are.
  static void terms5ImageKeepsNoSlots() {
    CatDoors x = dealt();
    x.lay(0, 3, 5);
    x.keep();
    x.lay(0, 3, 6);
    x.lay(1, 1, 0);
    x.back();
    due.is(40, "another number since", x.rest(0, 10), 6);
    due.is(40, "laid since", x.lay(1, 0, 0), 1);
  }

  // Terms 5: "all but ... numbers that wait": they stay.
  static void terms5ImageKeepsNoNumbersThatWait() {
    CatDoors x = dealt();
    x.tell(1);
    x.keep();
    x.tell(2);
    x.back();
    due.is(40, "count(9)", x.count(9), 2);
    x.check(1);
    x.back();
    due.is(40, "count(9), none", x.count(9), 0);
  }

  // Terms 5: "all but ... THE TAPE": it stays.
  static void terms5ImageKeepsNoTape() {
    CatDoors x = dealt();
    x.keep();
    x.feed(0x66656520, 0x39202020, 0x20202020);
    x.back();
    due.is(40, "count(10)", x.count(10), 12);
    due.is(40, "text()", x.text(), 0);
    due.is(40, "fee()", x.fee(), 9);
  }

  // Terms 5: "all can become as it is (again and again)".
  static void terms5BackAgainAndAgain() {
    CatDoors x = kept();
    String before = Due.looks(x);
    for (int i = 0; i < 3; i++) {
      x.hours(20 + i);
      due.is(40, "back()", x.back(), 9);
      due.holds(40, "all is as it was", before.equals(Due.looks(x)));
    }
    due.is(40, "back() at once again", x.back(), 9);
  }

  // Terms 5: what comes behind back() leaves THE IMAGE as it is: an image is no other name for what is now.
  static void terms5ImageIsApart() {
    CatDoors x = kept();
    x.back();
    x.set(0, 2, 99 - x.told(0, 2));
    x.rule(0, 77);
    x.back();
    due.is(40, "PATIENCE", x.count(2), 30);
    due.is(40, "HABIT", x.told(0, 2), dealt().told(0, 2));
  }

  // Terms 5, THE HOURS TOLD: "by THE IMAGE": not by what is now.
  static void terms5HoursToldByTheImage() {
    int[] rows = rows(dealt(), 5);
    CatDoors x = kept();
    x.hours(3);
    x.rule(0, 99);
    x.seed(1);
    x.asking(0, 0, 99, 0);
    due.is(38, "check(5)", checked(x, rows, 10, 5), 0);
  }

  // ---- Promise 37: tell

  // Promise 37: "One more number waits: how many.": from 1 to 60, any int.
  static void promise37HowMany() {
    CatDoors x = new CatDoors();
    int[] any = {LOW, HIGH, NONE, 0};
    for (int i = 1; i <= 60; i++) due.is(37, "tell", x.tell(any[i % 4]), i);
    due.is(41, "count(9)", x.count(9), 60);
  }

  // Promise 37: "FULL: 60 wait."
  static void promise37Full() {
    due.is(37, "the 60th", withWaiting(59).tell(0), 60);
    due.refuses(37, "the 61st", () -> withWaiting(60), x -> x.tell(0), FULL);
  }

  // Promise 37: behind a check there is room again.
  static void promise37RoomAgain() {
    CatDoors x = withWaiting(60);
    x.check(1);
    due.is(37, "the first anew", x.tell(0), 1);
  }

  // ---- Promise 38: check

  // Promise 38: "n (1 .. 30; ...)": both ends.
  static void promise38EndsOfN() {
    int[] rows = rows(dealt(), 30);
    due.is(38, "check(1)", checked(kept(), rows, 2, 1), 0);
    due.is(38, "check(30)", checked(kept(), rows, 60, 30), 0);
  }

  // Promise 38: "BAD": 0, 31 and far out; the numbers that wait are gone all the same.
  static void promise38Bad() {
    for (int n : new int[] {0, 31, -1, LOW, HIGH}) {
      CatDoors x = withWaiting(3);
      due.is(38, "check(" + n + ")", x.check(n), BAD);
      due.is(38, "none wait", x.count(9), 0);
    }
  }

  // Promise 38: "NO: there is no IMAGE."; "(none do then, whatever is answered)".
  static void promise38No() {
    CatDoors x = dealt();
    x.tell(1);
    due.is(38, "check(1)", x.check(1), NO);
    due.is(38, "none wait", x.count(9), 0);
    due.refuses(38, "check(1), none waited", EdgesRowsTest::dealt, y -> y.check(1), NO);
  }

  // Promise 38: "BAD; NO": BAD stands first.
  static void promise38BadStandsBeforeNo() {
    due.is(38, "check(0)", new CatDoors().check(0), BAD);
    due.is(38, "check(31)", new CatDoors().check(31), BAD);
  }

  // Promise 38: "(none do then, whatever is answered)": as due, and not as due.
  static void promise38NoneWaitThen() {
    int[] rows = rows(dealt(), 2);
    CatDoors x = kept();
    due.is(38, "as due", checked(x, rows, 4, 2), 0);
    due.is(38, "none wait", x.count(9), 0);
    rows[0]++;
    due.is(38, "not as due", checked(x, rows, 4, 2), 1);
    due.is(38, "none wait", x.count(9), 0);
  }

  // Promise 38: "1 and how many stand right ahead of the first that is not": each place of a row.
  static void promise38TheFirstThatIsNot() {
    int[] rows = rows(dealt(), 3);
    for (int i = 0; i < 6; i++) {
      CatDoors x = kept();
      rows[i] ^= 64;
      due.is(38, "wrong at " + i, checked(x, rows, 6, 3), 1 + i);
      rows[5] ^= 1;
      due.is(38, "and at the last", checked(x, rows, 6, 3), 1 + i);
      rows[5] ^= 1;
      rows[i] ^= 64;
    }
  }

  // Promise 38: "(or is missing, ...)": each number of places too few, none at all too.
  static void promise38Missing() {
    int[] rows = rows(dealt(), 3);
    for (int many = 0; many < 6; many++) due.is(38, many + " of 6", checked(kept(), rows, many, 3), 1 + many);
    due.is(38, "59 of 60", checked(kept(), rows(dealt(), 30), 59, 30), 60);
  }

  // Promise 38: "(... or one too many)".
  static void promise38OneTooMany() {
    int[] rows = rows(dealt(), 4);
    due.is(38, "7 of 6", checked(kept(), rows, 7, 3), 7);
    due.is(38, "8 of 6", checked(kept(), rows, 8, 3), 7);
    due.is(38, "3 of 2", checked(kept(), rows, 3, 1), 3);
  }

  // Promise 38: one that is not, ahead of one that is missing or one too many.
  static void promise38TheFirstOfSeveral() {
    int[] rows = rows(dealt(), 4);
    rows[1]++;
    due.is(38, "wrong at 1, two missing", checked(kept(), rows, 4, 3), 2);
    due.is(38, "wrong at 1, two too many", checked(kept(), rows, 8, 3), 2);
  }

  // Promise 38: "two by two": HABITS first, RISINGS then.
  static void promise38TwoByTwo() {
    CatDoors x = new CatDoors();
    x.asking(0, 0, 40, 0);
    x.rule(3, 1);
    x.opens(0);
    x.keep();
    x.tell(48);
    x.tell(1);
    due.is(38, "48, 1", x.check(1), 0);
    x.tell(1);
    x.tell(48);
    due.is(38, "1, 48", x.check(1), 1);
  }

  // Promise 38: "fewer, if THE HOUR would be above 9999": by THE IMAGE's hour, some.
  static void promise38FewerNear9999() {
    int[] rows = rows(keptAt(9997), 2);
    CatDoors x = keptAt(9997);
    due.is(38, "check(30): two hours", checked(x, rows, 4, 30), 0);
    due.is(38, "check(3): two hours", checked(x, rows, 4, 3), 0);
    due.is(38, "check(2)", checked(x, rows, 4, 2), 0);
    due.is(38, "one too many", checked(x, rows, 5, 30), 5);
    due.is(38, "one missing", checked(x, rows, 3, 30), 4);
    due.is(38, "check(1)", checked(x, rows, 2, 1), 0);
  }

  // Promise 38: "fewer, if THE HOUR would be above 9999": at 9999 there are none.
  static void promise38NoneAt9999() {
    CatDoors x = keptAt(9999);
    due.is(38, "check(30)", x.check(30), 0);
    x.tell(0);
    due.is(38, "one too many", x.check(1), 1);
  }

  // Promise 38: "fewer, if THE HOUR would be above 9999": that of THE IMAGE, not that of now.
  static void promise38TheHourOfTheImage() {
    CatDoors x = new CatDoors();
    x.asking(0, 0, 40, 0);
    x.rule(3, 1);
    x.keep();
    for (int i = 0; i < 100; i++) x.hours(100);
    due.is(41, "count(1)", x.count(1), 9999);
    due.is(38, "check(2)", checked(x, new int[] {40, 0, 40, 0}, 4, 2), 0);
  }

  // Promise 38: a check is only thought: neither what is now nor THE IMAGE changes.
  static void promise38ChangesNothingElse() {
    due.refuses(38, "check(30)", EdgesRowsTest::kept, x -> x.check(30), 1);
    int[] rows = rows(dealt(), 2);
    CatDoors x = kept();
    for (int i = 0; i < 3; i++) due.is(38, "check(2) again", checked(x, rows, 4, 2), 0);
  }

  // ---- Promises 39 to 41

  // Promise 39: "how many ASKINGS": none, 12; nothing changes.
  static void promise39HowMany() {
    due.is(39, "of none", new CatDoors().keep(), 0);
    CatDoors x = new CatDoors();
    x.deal(12);
    due.is(39, "of 12", x.keep(), 12);
    CatDoors y = dealt();
    String before = Due.looks(y);
    y.keep();
    due.holds(39, "nothing changes", before.equals(Due.looks(y)));
  }

  // Promise 39: a later IMAGE takes the place of an earlier one, also one with fewer ASKINGS and TEXTS.
  static void promise39ALaterImage() {
    CatDoors x = new CatDoors();
    x.deal(2);
    x.keep();
    x.deal(10);
    Due.text(x, "fee 1");
    due.is(39, "keep()", x.keep(), 12);
    x.rule(0, 0);
    due.is(40, "back()", x.back(), 12);
    due.is(40, "count(8)", x.count(8), 1);
    CatDoors y = new CatDoors();
    y.keep();
    y.deal(12);
    y.keep();
    due.is(40, "back()", y.back(), 12);
  }

  // Promise 40: "NO: there is none."
  static void promise40No() {
    due.refuses(40, "back()", EdgesRowsTest::dealt, CatDoors::back, NO);
    due.is(40, "of a new object", new CatDoors().back(), NO);
  }

  // Promise 40: "how many ASKINGS": fewer than now, and more than now after a shorter image.
  static void promise40HowMany() {
    CatDoors x = new CatDoors();
    x.keep();
    x.deal(12);
    due.is(40, "back()", x.back(), 0);
    due.is(40, "count(0)", x.count(0), 0);
    due.is(40, "told(0, 0)", x.told(0, 0), BAD);
    due.is(40, "house(6)", x.house(6), 0);
  }

  // Promise 40: "All is as THE IMAGE": from 9999 back to an earlier hour, hours pass again.
  static void promise40BackFromTheLastHour() {
    CatDoors x = keptAt(9998);
    x.hours(100);
    due.is(41, "count(1)", x.count(1), 9999);
    x.back();
    due.is(41, "count(1)", x.count(1), 9998);
    x.hours(1);
    due.is(41, "count(1)", x.count(1), 9999);
  }

  // Promise 41: "0 how many ASKINGS, ... 11 z. BAD.": below 0 and above 11.
  static void promise41Bad() {
    for (int w : new int[] {-1, 12, LOW, HIGH}) due.refuses(41, "count(" + w + ")", EdgesRowsTest::kept, x -> x.count(w), BAD);
  }

  // Promise 41: each count at its most.
  static void promise41TheMost() {
    CatDoors x = full();
    x.rule(0, 99);
    x.rule(1, 100);
    x.rule(2, 100);
    x.rule(3, 1);
    x.rule(5, 1);
    x.rule(6, 1);
    x.seed(HIGH);
    int[] most = {12, 0, 99, 100, 100, 1, 1, 1, 14, 60, 96, HIGH};
    for (int what = 0; what < 12; what++) due.is(41, "count(" + what + ")", x.count(what), most[what]);
    due.is(41, "THE HOUR at its most", keptAt(9999).count(1), 9999);
  }

  public static void main(String[] args) { due.runs(EdgesRowsTest.class); }
}
