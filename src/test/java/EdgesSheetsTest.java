/** Each sentence of "Terms", part 5, on sheets and slots, and of promises 28 to 36 that names an edge: a test of its own. */
public final class EdgesSheetsTest {
  private static final int BAD = CatDoors.BAD, NO = CatDoors.NO, NONE = CatDoors.NONE, NOTHING = CatDoors.NOTHING;
  private static final int KIND = CatDoors.KIND, INDEX = CatDoors.INDEX, SIZE = CatDoors.SIZE;
  private static final int LOW = Integer.MIN_VALUE, HIGH = Integer.MAX_VALUE;
  private static final Due due = new Due("EdgesSheetsTest");

  /** Askings 0 .. 5 of all kinds; sheets: 0 shorts 1 2 3, 1 floats 7 NO NUMBER 9, 2 missing, 3 floats without places; slots: 0 an asking (FRIGHTENED), 1 sheet 1, 2 the number -17, 3 and 4 nothing. */
  private static CatDoors furnished() {
    CatDoors x = new CatDoors();
    x.keep();
    for (int kind = 0; kind < 6; kind++) x.asking(kind, kind, 10 + kind, 50);
    x.sheet(0, 0, 3);
    x.sheet(1, 1, 3);
    x.sheet(3, 1, 0);
    for (int place = 0; place < 3; place++) {
      x.mark(0, place, 1 + place);
      x.mark(1, place, place == 1 ? NONE : 7 + place);
    }
    x.lay(0, 1, 3);
    x.lay(1, 2, 1);
    x.lay(2, 3, -17);
    x.tell(7);
    x.feed(1, 2, 3);
    return x;
  }

  private static CatDoors withSheet(int sort, int size) {
    CatDoors x = new CatDoors();
    x.sheet(0, sort, size);
    return x;
  }

  /** What a place holds, by way of the last slot. */
  private static int place(CatDoors x, int sheet, int place) {
    x.lay(4, 2, sheet);
    return x.item(4, place);
  }

  private static void row(int promise, CatDoors x, int sheet, int... want) {
    for (int i = 0; i < want.length; i++) due.is(promise, "place " + i + " of sheet " + sheet, place(x, sheet, i), want[i]);
    due.is(promise, "and no more", place(x, sheet, want.length), INDEX);
  }

  // ---- Terms, part 5

  // Terms 5: "SHEETS 0 .. 3".
  static void terms5SheetsAre0To3() {
    CatDoors x = new CatDoors();
    for (int sheet = 0; sheet < 4; sheet++) due.is(28, "sheet " + sheet, x.sheet(sheet, 0, 1 + sheet), 1 + sheet);
    due.is(28, "sheet 4", x.sheet(4, 0, 1), BAD);
    due.is(28, "sheet -1", x.sheet(-1, 0, 1), BAD);
    for (int sheet = 0; sheet < 4; sheet++) due.is(28, "behind its last place", place(x, sheet, 1 + sheet), INDEX);
    for (int sheet = 0; sheet < 4; sheet++) due.is(28, "its last place", place(x, sheet, sheet), 0);
  }

  // Terms 5: "with 0 to 24 places".
  static void terms5Places0To24() {
    for (int sort = 0; sort < 2; sort++) {
      CatDoors x = new CatDoors();
      due.is(28, "no places", x.sheet(0, sort, 0), 0);
      due.is(29, "place 0 of none", x.mark(0, 0, 1), INDEX);
      due.is(28, "24 places", x.sheet(0, sort, 24), 24);
      due.is(29, "place 23", x.mark(0, 23, 1), 1);
      due.is(29, "place 24", x.mark(0, 24, 1), INDEX);
    }
  }

  // Terms 5: "or MISSING (at first)": all four; a SHEET without places is not MISSING.
  static void terms5MissingAtFirst() {
    CatDoors x = new CatDoors();
    for (int sheet = 0; sheet < 4; sheet++) due.is(29, "mark(" + sheet + ", 0, 0)", x.mark(sheet, 0, 0), NOTHING);
    x.sheet(0, 0, 0);
    due.is(29, "mark(0, 0, 0)", x.mark(0, 0, 0), INDEX);
  }

  // Terms 5: "A place of floats may be NO NUMBER.": and a number again.
  static void terms5NoNumber() {
    CatDoors x = withSheet(1, 1);
    x.mark(0, 0, NONE);
    due.is(35, "NO NUMBER", place(x, 0, 0), KIND);
    x.mark(0, 0, 5);
    due.is(35, "a number again", place(x, 0, 0), 5);
  }

  // Terms 5: "SLOTS 0 .. 4".
  static void terms5SlotsAre0To4() {
    CatDoors x = new CatDoors();
    for (int slot = 0; slot < 5; slot++) due.is(33, "slot " + slot, x.lay(slot, 3, 100 + slot), 0);
    due.is(33, "slot 5", x.lay(5, 3, 0), BAD);
    due.is(33, "slot -1", x.lay(-1, 3, 0), BAD);
    for (int slot = 0; slot < 5; slot++) due.is(36, "rest(" + slot + ", 1000)", x.rest(slot, 1000), 100 + slot);
  }

  // Terms 5: "each hold nothing (at first)".
  static void terms5SlotsHoldNothingAtFirst() {
    CatDoors x = new CatDoors();
    for (int slot = 0; slot < 5; slot++) {
      due.is(34, "ask(" + slot + ", 0)", x.ask(slot, 0), NOTHING);
      due.is(35, "item(" + slot + ", 0)", x.item(slot, 0), NOTHING);
      due.is(36, "rest(" + slot + ", 1)", x.rest(slot, 1), NOTHING);
    }
  }

  // Terms 5: "an ASKING (as it is then, for good)": whatever becomes of it, also behind back().
  static void terms5SlotKeepsAnAskingForGood() {
    CatDoors x = new CatDoors();
    x.keep();
    x.asking(3, 0, 10, 0);
    x.lay(0, 1, 0);
    x.set(0, 2, 90);
    due.is(34, "HABIT was 10", x.ask(0, 0), 32);
    x.turns(0, 5);
    due.is(34, "it was FRIGHTENED", x.ask(0, 3), 32);
    x.opens(0);
    x.hours(24);
    x.back();
    due.is(34, "there are no ASKINGS now", x.ask(0, 1), 32);
  }

  // Terms 5: "a SHEET (a row of its own, as it was then)": whatever becomes of that SHEET.
  static void terms5SlotKeepsARowOfItsOwn() {
    CatDoors x = furnished();
    x.mark(1, 0, 70);
    due.is(35, "marked since", x.item(1, 0), 7);
    x.sheet(1, 0, 1);
    due.is(35, "of another sort since", x.item(1, 2), 9);
    x.sheet(1, -1, 0);
    due.is(35, "MISSING since", x.item(1, 2), 9);
    due.is(35, "NO NUMBER still", x.item(1, 1), KIND);
    due.is(35, "three places still", x.item(1, 3), INDEX);
  }

  // Terms 5: "a row of its own": two SLOTS with one SHEET have each its own.
  static void terms5SlotsAreApart() {
    CatDoors x = withSheet(0, 1);
    x.mark(0, 0, 1);
    x.lay(0, 2, 0);
    x.mark(0, 0, 2);
    x.lay(1, 2, 0);
    due.is(35, "the first", x.item(0, 0), 1);
    due.is(35, "the second", x.item(1, 0), 2);
  }

  // Terms 5: "FINDINGS: NOTHING: a SHEET is MISSING, a SLOT holds nothing": every call that can find it.
  static void terms5FindingNothing() {
    due.refuses(29, "mark(2, 0, 0)", EdgesSheetsTest::furnished, x -> x.mark(2, 0, 0), NOTHING);
    due.refuses(30, "pour(2)", EdgesSheetsTest::furnished, x -> x.pour(2), NOTHING);
    due.refuses(31, "reads(2)", EdgesSheetsTest::furnished, x -> x.reads(2), NOTHING);
    due.refuses(32, "copy(2, 0, 0, 0, 0)", EdgesSheetsTest::furnished, x -> x.copy(2, 0, 0, 0, 0), NOTHING);
    due.refuses(32, "copy(0, 0, 2, 0, 0)", EdgesSheetsTest::furnished, x -> x.copy(0, 0, 2, 0, 0), NOTHING);
    due.refuses(33, "lay(0, 2, 2)", EdgesSheetsTest::furnished, x -> x.lay(0, 2, 2), NOTHING);
    due.refuses(20, "taught(2, 0)", EdgesSheetsTest::furnished, x -> x.taught(2, 0), NOTHING);
    due.refuses(34, "ask(3, 0)", EdgesSheetsTest::furnished, x -> x.ask(3, 0), NOTHING);
    due.refuses(35, "item(3, 0)", EdgesSheetsTest::furnished, x -> x.item(3, 0), NOTHING);
    due.refuses(36, "rest(3, 1)", EdgesSheetsTest::furnished, x -> x.rest(3, 1), NOTHING);
  }

  // ---- Promise 28: sheet

  // Promise 28: "all 0": also where there were numbers, of shorts and of floats, and beyond what it was.
  static void promise28All0() {
    CatDoors x = furnished();
    x.sheet(1, 1, 4);
    row(28, x, 1, 0, 0, 0, 0);
    x.sheet(0, 1, 2);
    row(28, x, 0, 0, 0);
    x.sheet(0, 0, 3);
    row(28, x, 0, 0, 0, 0);
  }

  // Promise 28: "(sort -1: MISSING, n any): n (0)".
  static void promise28MissingWithAnyN() {
    for (int n : new int[] {0, 1, 24, 25, -1, LOW, HIGH}) {
      CatDoors x = furnished();
      due.is(28, "sheet(0, -1, " + n + ")", x.sheet(0, -1, n), 0);
      due.is(28, "it is MISSING", x.mark(0, 0, 1), NOTHING);
      due.is(28, "once more", x.sheet(0, -1, n), 0);
    }
  }

  // Promise 28: "BAD: sheet".
  static void promise28BadSheet() {
    for (int s : new int[] {-1, 4, LOW, HIGH}) {
      due.refuses(28, "sheet(" + s + ", 0, 1)", EdgesSheetsTest::furnished, x -> x.sheet(s, 0, 1), BAD);
      due.refuses(28, "sheet(" + s + ", -1, 0)", EdgesSheetsTest::furnished, x -> x.sheet(s, -1, 0), BAD);
    }
  }

  // Promise 28: "BAD: ... sort".
  static void promise28BadSort() {
    for (int sort : new int[] {-2, 2, LOW, HIGH}) due.refuses(28, "sheet(0, " + sort + ", 1)", EdgesSheetsTest::furnished, x -> x.sheet(0, sort, 1), BAD);
  }

  // Promise 28: "BAD: ... n above 24".
  static void promise28BadN() {
    for (int n : new int[] {25, 100, HIGH}) {
      due.refuses(28, "sheet(0, 0, " + n + ")", EdgesSheetsTest::furnished, x -> x.sheet(0, 0, n), BAD);
      due.refuses(28, "sheet(1, 1, " + n + ")", EdgesSheetsTest::furnished, x -> x.sheet(1, 1, n), BAD);
    }
  }

  // Promise 28: "SIZE"; Terms 5: "SIZE: a number of places is below 0".
  static void promise28Size() {
    for (int n : new int[] {-1, -24, LOW}) {
      due.refuses(28, "sheet(0, 0, " + n + ")", EdgesSheetsTest::furnished, x -> x.sheet(0, 0, n), SIZE);
      due.refuses(28, "sheet(2, 1, " + n + ")", EdgesSheetsTest::furnished, x -> x.sheet(2, 1, n), SIZE);
    }
  }

  // Promise 28: "BAD: sheet, sort, n above 24; SIZE.": BAD stands first.
  static void promise28BadStandsBeforeSize() {
    due.refuses(28, "sheet(4, 0, -1)", EdgesSheetsTest::furnished, x -> x.sheet(4, 0, -1), BAD);
    due.refuses(28, "sheet(0, 2, -1)", EdgesSheetsTest::furnished, x -> x.sheet(0, 2, -1), BAD);
    due.refuses(28, "sheet(0, -2, -1)", EdgesSheetsTest::furnished, x -> x.sheet(0, -2, -1), BAD);
  }

  // ---- Promise 29: mark

  // Promise 29: "of shorts its lowest 16 bits": the ends of shorts, just beyond them, the ends of ints.
  static void promise29LowestBitsOfShorts() {
    int[][] pairs = {{32767, 32767}, {32768, -32768}, {-32768, -32768}, {-32769, 32767}, {65535, -1}, {65536, 0}, {-65536, 0}, {HIGH, -1}, {LOW, 0}, {-1, -1}, {BAD, (short) BAD}, {NONE + 1, (short) (NONE + 1)}};
    for (int[] p : pairs) {
      CatDoors x = withSheet(0, 1);
      due.is(29, "mark(0, 0, " + p[0] + ")", x.mark(0, 0, p[0]), 1);
      due.is(29, "the place", place(x, 0, 0), p[1]);
    }
  }

  // Promise 29: "of floats v, -99999 .. 99999": both ends, and beyond what shorts hold.
  static void promise29EndsOfFloats() {
    for (int v : new int[] {-99999, 99999, 32768, -32769, 65536, 0, 16777}) {
      CatDoors x = withSheet(1, 1);
      due.is(29, "mark(0, 0, " + v + ")", x.mark(0, 0, v), 1);
      due.is(29, "the place", place(x, 0, 0), v);
    }
  }

  // Promise 29: "BAD: v of floats.": beyond both ends, and the other refusals' numbers.
  static void promise29BadV() {
    for (int v : new int[] {100000, -100000, LOW, HIGH, BAD, NO, NOTHING, NONE + 1, NONE - 1}) due.refuses(29, "mark(1, 0, " + v + ")", EdgesSheetsTest::furnished, x -> x.mark(1, 0, v), BAD);
  }

  // Promise 29: "NONE: NO NUMBER": of floats it is told by 1.
  static void promise29NoneOfFloats() {
    CatDoors x = withSheet(1, 1);
    due.is(29, "mark(0, 0, NONE)", x.mark(0, 0, NONE), 1);
    due.is(29, "the place", place(x, 0, 0), KIND);
  }

  // Promise 29: "KIND: NONE in a row of shorts".
  static void promise29NoneOfShorts() {
    due.refuses(29, "mark(0, 0, NONE)", EdgesSheetsTest::furnished, x -> x.mark(0, 0, NONE), KIND);
  }

  // Promise 29: "BAD: sheet".
  static void promise29BadSheet() {
    for (int s : new int[] {-1, 4, LOW, HIGH}) due.refuses(29, "mark(" + s + ", 0, 0)", EdgesSheetsTest::furnished, x -> x.mark(s, 0, 0), BAD);
  }

  // Promise 29: "INDEX": no such place.
  static void promise29Index() {
    for (int p : new int[] {-1, 3, 23, 24, LOW, HIGH}) {
      due.refuses(29, "mark(0, " + p + ", 0)", EdgesSheetsTest::furnished, x -> x.mark(0, p, 0), INDEX);
      due.refuses(29, "mark(1, " + p + ", 0)", EdgesSheetsTest::furnished, x -> x.mark(1, p, 0), INDEX);
    }
    due.refuses(29, "mark(3, 0, 0), no places", EdgesSheetsTest::furnished, x -> x.mark(3, 0, 0), INDEX);
    due.is(29, "the last place", furnished().mark(0, 2, 0), 1);
  }

  // Promise 29: "BAD: sheet; NOTHING; INDEX; KIND ...; BAD: v of floats.": in this order.
  static void promise29OrderOfRefusals() {
    due.refuses(29, "a wrong sheet, place and v", EdgesSheetsTest::furnished, x -> x.mark(4, -1, NONE), BAD);
    due.refuses(29, "MISSING, a wrong place", EdgesSheetsTest::furnished, x -> x.mark(2, -1, NONE), NOTHING);
    due.refuses(29, "a wrong place, NONE in shorts", EdgesSheetsTest::furnished, x -> x.mark(0, 3, NONE), INDEX);
    due.refuses(29, "a wrong place and v of floats", EdgesSheetsTest::furnished, x -> x.mark(1, 3, 100000), INDEX);
  }

  // ---- Promise 30: pour

  // Promise 30: "BAD".
  static void promise30Bad() {
    for (int s : new int[] {-1, 4, LOW, HIGH}) due.refuses(30, "pour(" + s + ")", EdgesSheetsTest::furnished, x -> x.pour(s), BAD);
  }

  // Promise 30: "BAD; NOTHING.": MISSING.
  static void promise30Nothing() {
    due.refuses(30, "pour(2)", EdgesSheetsTest::furnished, x -> x.pour(2), NOTHING);
    due.refuses(30, "pour(0), no ASKINGS", CatDoors::new, x -> x.pour(0), NOTHING);
  }

  // Promise 30: "(each held within 0 .. 99; ...)": just beyond both ends and far out.
  static void promise30HeldWithin() {
    int[][] pairs = {{-1, 0}, {0, 0}, {1, 1}, {98, 98}, {99, 99}, {100, 99}, {99999, 99}, {-99999, 0}};
    for (int[] p : pairs) {
      CatDoors x = withSheet(1, 1);
      x.asking(0, 0, 50, 0);
      x.mark(0, 0, p[0]);
      due.is(30, "pour of " + p[0], x.pour(0), 1);
      due.is(30, "HABIT", x.told(0, 2), p[1]);
    }
  }

  // Promise 30: "(... NO NUMBER, ...: they stay)".
  static void promise30NoNumberStays() {
    CatDoors x = furnished();
    due.is(30, "pour(1)", x.pour(1), 2);
    due.is(30, "HABIT 0", x.told(0, 2), 7);
    due.is(30, "HABIT 1 stays", x.told(1, 2), 11);
    due.is(30, "HABIT 2", x.told(2, 2), 9);
  }

  // Promise 30: "(... and beyond the SHEET: they stay)".
  static void promise30BeyondTheSheetStays() {
    CatDoors x = furnished();
    due.is(30, "pour(0)", x.pour(0), 3);
    for (int a = 3; a < 6; a++) due.is(30, "HABIT " + a + " stays", x.told(a, 2), 10 + a);
    due.refuses(30, "pour(3), no places", EdgesSheetsTest::furnished, y -> y.pour(3), 0);
  }

  // Promise 30: places beyond the ASKINGS have no say; no ASKING is made.
  static void promise30MorePlacesThanAskings() {
    CatDoors x = withSheet(0, 24);
    due.is(30, "no ASKINGS", x.pour(0), 0);
    x.asking(0, 0, 50, 0);
    due.is(30, "one", x.pour(0), 1);
    due.is(30, "count(0)", x.count(0), 1);
  }

  // Promise 30: "how many are otherwise then": those that come to what they were are not.
  static void promise30HowManyAreOtherwise() {
    CatDoors x = furnished();
    x.mark(0, 1, 11);
    due.is(30, "pour(0)", x.pour(0), 2);
    due.is(30, "once more", x.pour(0), 0);
    x.mark(0, 0, 300);
    x.set(0, 2, 99);
    due.is(30, "held to what it is", x.pour(0), 0);
  }

  // ---- Promise 31: reads

  // Promise 31: "BAD; NOTHING".
  static void promise31BadAndNothing() {
    for (int s : new int[] {-1, 4, LOW, HIGH}) due.refuses(31, "reads(" + s + ")", EdgesSheetsTest::furnished, x -> x.reads(s), BAD);
    due.refuses(31, "reads(2)", EdgesSheetsTest::furnished, x -> x.reads(2), NOTHING);
  }

  // Promise 31: "NONE: there is none.": no places, NO NUMBER alone, all HOURS.
  static void promise31None() {
    due.is(31, "no places", furnished().reads(3), NONE);
    CatDoors x = furnished();
    x.sheet(1, 1, 24);
    for (int place = 0; place < 24; place++) x.mark(1, place, NONE);
    due.is(31, "no numbers", x.reads(1), NONE);
    for (int place = 0; place < 6; place++) x.mark(1, place, place);
    due.is(31, "all HOURS, and no numbers behind them", x.reads(1), NONE);
    due.is(31, "no ASKINGS and no places", withSheet(0, 0).reads(0), NONE);
  }

  // Promise 31: "The first place (of numbers alone) at which a SHEET is not HOUR of that ASKING": the first of several.
  static void promise31TheFirst() {
    CatDoors x = furnished();
    x.sheet(0, 0, 6);
    for (int place = 0; place < 6; place++) x.mark(0, place, place);
    for (int place = 5; place >= 0; place--) {
      x.mark(0, place, 24);
      due.is(31, "reads(0)", x.reads(0), place);
    }
  }

  // Promise 31: "(of numbers alone)": NO NUMBER is passed over, also first.
  static void promise31NumbersAlone() {
    CatDoors x = furnished();
    x.mark(1, 0, NONE);
    due.is(31, "reads(1)", x.reads(1), 2);
    x.mark(1, 2, 2);
    due.is(31, "reads(1), HOUR 2", x.reads(1), NONE);
  }

  // Promise 31: "(of places that are no ASKING all numbers are not)": 0 too.
  static void promise31PlacesThatAreNoAsking() {
    due.is(31, "no ASKINGS", withSheet(0, 1).reads(0), 0);
    CatDoors x = furnished();
    x.sheet(0, 0, 7);
    for (int place = 0; place < 6; place++) x.mark(0, place, place);
    due.is(31, "behind the last", x.reads(0), 6);
    CatDoors y = withSheet(0, 24);
    for (int i = 0; i < 12; i++) y.asking(0, 0, 0, 0);
    due.is(31, "behind the last of 12", y.reads(0), 12);
  }

  // Promise 31: the ends of HOUR, and numbers that only look like one.
  static void promise31EndsOfHour() {
    CatDoors x = withSheet(0, 1);
    x.asking(0, 23, 0, 0);
    x.mark(0, 0, 23);
    due.is(31, "23", x.reads(0), NONE);
    x.mark(0, 0, 23 + 65536);
    due.is(31, "its lowest 16 bits", x.reads(0), NONE);
    x.mark(0, 0, -1);
    due.is(31, "-1", x.reads(0), 0);
    x.mark(0, 0, 47);
    due.is(31, "47", x.reads(0), 0);
  }

  // ---- Promise 32: copy

  // Promise 32: "BAD": either SHEET.
  static void promise32Bad() {
    for (int s : new int[] {-1, 4, LOW, HIGH}) {
      due.refuses(32, "copy(" + s + ", 0, 0, 0, 1)", EdgesSheetsTest::furnished, x -> x.copy(s, 0, 0, 0, 1), BAD);
      due.refuses(32, "copy(0, 0, " + s + ", 0, 1)", EdgesSheetsTest::furnished, x -> x.copy(0, 0, s, 0, 1), BAD);
    }
  }

  // Promise 32: "KIND: they are not of one sort": also where nothing would come.
  static void promise32Kind() {
    due.refuses(32, "shorts to floats", EdgesSheetsTest::furnished, x -> x.copy(0, 0, 1, 0, 1), KIND);
    due.refuses(32, "floats to shorts", EdgesSheetsTest::furnished, x -> x.copy(1, 0, 0, 0, 1), KIND);
    due.refuses(32, "none of them", EdgesSheetsTest::furnished, x -> x.copy(0, 0, 3, 0, 0), KIND);
  }

  // Promise 32: "INDEX": the place from which, below 0 and too far for so many.
  static void promise32IndexFrom() {
    int[][] wrong = {{-1, 1}, {3, 1}, {2, 2}, {0, 4}, {4, 0}, {-1, 0}, {LOW, 1}, {HIGH, 1}, {HIGH, HIGH}, {1, HIGH}, {LOW, LOW}};
    for (int[] w : wrong) due.refuses(32, "copy(0, " + w[0] + ", 0, 0, " + w[1] + ")", EdgesSheetsTest::furnished, x -> x.copy(0, w[0], 0, 0, w[1]), INDEX);
  }

  // Promise 32: "INDEX": the place to which, below 0 and too far for so many.
  static void promise32IndexTo() {
    int[][] wrong = {{-1, 1}, {3, 1}, {2, 2}, {1, 3}, {4, 0}, {-1, 0}, {LOW, 1}, {HIGH, 1}, {HIGH, 2}};
    for (int[] w : wrong) due.refuses(32, "copy(0, 0, 0, " + w[0] + ", " + w[1] + ")", EdgesSheetsTest::furnished, x -> x.copy(0, 0, 0, w[0], w[1]), INDEX);
  }

  // Promise 32: "INDEX": so many below 0 are no places (SIZE does not stand with it).
  static void promise32IndexOfManyBelow0() {
    for (int many : new int[] {-1, -3, LOW}) due.refuses(32, "copy(0, 1, 0, 1, " + many + ")", EdgesSheetsTest::furnished, x -> x.copy(0, 1, 0, 1, many), INDEX);
  }

  // Promise 32: none come: 0, also from and to the end, and of SHEETS without places.
  static void promise32NoneCome() {
    due.refuses(32, "copy(0, 3, 0, 3, 0)", EdgesSheetsTest::furnished, x -> x.copy(0, 3, 0, 3, 0), 0);
    due.refuses(32, "copy(3, 0, 3, 0, 0)", EdgesSheetsTest::furnished, x -> x.copy(3, 0, 3, 0, 0), 0);
    due.refuses(32, "copy(1, 3, 3, 0, 0)", EdgesSheetsTest::furnished, x -> x.copy(1, 3, 3, 0, 0), 0);
  }

  // Promise 32: "So many places": all 24 at once.
  static void promise32All24() {
    CatDoors x = withSheet(0, 24);
    x.sheet(1, 0, 24);
    for (int i = 0; i < 24; i++) x.mark(0, i, i - 12);
    due.is(32, "copy(0, 0, 1, 0, 24)", x.copy(0, 0, 1, 0, 24), 24);
    x.lay(0, 2, 1);
    for (int i = 0; i < 24; i++) due.is(32, "place " + i, x.item(0, i), i - 12);
    due.is(32, "25", x.copy(0, 0, 1, 0, 25), INDEX);
  }

  // Promise 32: "(or the same), as they were": over one another, onwards.
  static void promise32OverOneAnotherOnwards() {
    CatDoors x = furnished();
    due.is(32, "copy(0, 0, 0, 1, 2)", x.copy(0, 0, 0, 1, 2), 2);
    row(32, x, 0, 1, 1, 2);
  }

  // Promise 32: "(or the same), as they were": over one another, backwards, and onto themselves.
  static void promise32OverOneAnotherBackwards() {
    CatDoors x = furnished();
    due.is(32, "copy(0, 1, 0, 0, 2)", x.copy(0, 1, 0, 0, 2), 2);
    row(32, x, 0, 2, 3, 3);
    due.is(32, "copy(0, 0, 0, 0, 3)", x.copy(0, 0, 0, 0, 3), 3);
    row(32, x, 0, 2, 3, 3);
  }

  // Promise 32: "as they were": NO NUMBER too; the SHEET from which they come stays.
  static void promise32NoNumberToo() {
    CatDoors x = furnished();
    x.sheet(3, 1, 4);
    due.is(32, "copy(1, 0, 3, 1, 3)", x.copy(1, 0, 3, 1, 3), 3);
    row(32, x, 3, 0, 7, KIND, 9);
    row(32, x, 1, 7, KIND, 9);
  }

  // Promise 32: "BAD; NOTHING; KIND ...; INDEX.": in this order.
  static void promise32OrderOfRefusals() {
    due.refuses(32, "a wrong SHEET, a MISSING one, a wrong place", EdgesSheetsTest::furnished, x -> x.copy(2, -1, 4, -1, -1), BAD);
    due.refuses(32, "a wrong SHEET, a MISSING one, a wrong place", EdgesSheetsTest::furnished, x -> x.copy(-1, -1, 2, -1, -1), BAD);
    due.refuses(32, "a MISSING SHEET, a wrong place", EdgesSheetsTest::furnished, x -> x.copy(2, -1, 0, -1, -1), NOTHING);
    due.refuses(32, "a MISSING SHEET, a wrong place", EdgesSheetsTest::furnished, x -> x.copy(1, -1, 2, -1, -1), NOTHING);
    due.refuses(32, "two sorts, a wrong place", EdgesSheetsTest::furnished, x -> x.copy(0, -1, 1, 9, -1), KIND);
  }

  // ---- Promise 33: lay

  // Promise 33: "BAD: slot".
  static void promise33BadSlot() {
    for (int s : new int[] {-1, 5, LOW, HIGH}) for (int t = 0; t < 4; t++) {
      int thing = t;
      due.refuses(33, "lay(" + s + ", " + t + ", 0)", EdgesSheetsTest::furnished, x -> x.lay(s, thing, 0), BAD);
    }
  }

  // Promise 33: "BAD: ... thing".
  static void promise33BadThing() {
    for (int t : new int[] {-1, 4, LOW, HIGH}) due.refuses(33, "lay(0, " + t + ", 0)", EdgesSheetsTest::furnished, x -> x.lay(0, t, 0), BAD);
  }

  // Promise 33: "BAD: ... k": no such ASKING.
  static void promise33BadAsking() {
    for (int k : new int[] {-1, 6, 12, LOW, HIGH}) due.refuses(33, "lay(1, 1, " + k + ")", EdgesSheetsTest::furnished, x -> x.lay(1, 1, k), BAD);
    due.is(33, "the last one", furnished().lay(1, 1, 5), 2);
    due.is(33, "of none", new CatDoors().lay(0, 1, 0), BAD);
  }

  // Promise 33: "BAD: ... k": no such SHEET.
  static void promise33BadSheet() {
    for (int k : new int[] {-1, 4, LOW, HIGH}) due.refuses(33, "lay(0, 2, " + k + ")", EdgesSheetsTest::furnished, x -> x.lay(0, 2, k), BAD);
    due.is(33, "the last one, without places", furnished().lay(0, 2, 3), 1);
  }

  // Promise 33: "3 the number k": any int; "0 nothing": whatever k is.
  static void promise33AnyNumber() {
    for (int k : new int[] {LOW, HIGH, NONE, BAD, NOTHING, 0, -1}) {
      CatDoors x = new CatDoors();
      due.is(33, "lay(0, 3, " + k + ")", x.lay(0, 3, k), 0);
      due.is(36, "rest(0, 1000)", x.rest(0, 1000), k % 1000);
      due.is(33, "lay(0, 0, " + k + ")", x.lay(0, 0, k), 3);
      due.is(36, "nothing", x.rest(0, 1000), NOTHING);
    }
  }

  // Promise 33: "NOTHING: that SHEET is MISSING.": the SLOT holds what it held.
  static void promise33Nothing() {
    due.refuses(33, "lay(0, 2, 2)", EdgesSheetsTest::furnished, x -> x.lay(0, 2, 2), NOTHING);
    due.refuses(33, "lay(1, 2, 2)", EdgesSheetsTest::furnished, x -> x.lay(1, 2, 2), NOTHING);
    due.refuses(33, "lay(3, 2, 2)", EdgesSheetsTest::furnished, x -> x.lay(3, 2, 2), NOTHING);
  }

  // Promise 33: "BAD: slot, thing, k; NOTHING": BAD stands first.
  static void promise33BadStandsBeforeNothing() {
    due.refuses(33, "lay(5, 2, 2)", EdgesSheetsTest::furnished, x -> x.lay(5, 2, 2), BAD);
    due.refuses(33, "lay(0, 2, 4)", EdgesSheetsTest::furnished, x -> x.lay(0, 2, 4), BAD);
  }

  // Promise 33: "what it held (0 .. 3)": from each thing to each other.
  static void promise33WhatItHeld() {
    for (int from = 0; from < 4; from++) {
      for (int to = 0; to < 4; to++) {
        CatDoors x = furnished();
        x.lay(4, from, 0);
        due.is(33, "from " + from + " to " + to, x.lay(4, to, 0), from);
        due.is(33, "then", x.lay(4, 0, 0), to);
      }
    }
  }

  // ---- Promise 34: ask

  // Promise 34: "BAD": slot and kind.
  static void promise34Bad() {
    for (int s : new int[] {-1, 5, LOW, HIGH}) due.refuses(34, "ask(" + s + ", 0)", EdgesSheetsTest::furnished, x -> x.ask(s, 0), BAD);
    for (int k : new int[] {-1, 6, LOW, HIGH}) due.refuses(34, "ask(0, " + k + ")", EdgesSheetsTest::furnished, x -> x.ask(0, k), BAD);
  }

  // Promise 34: "KIND: it is no ASKING": a SHEET, a number.
  static void promise34KindOfAnotherThing() {
    for (int kind = 0; kind < 6; kind++) {
      int k = kind;
      due.refuses(34, "ask(1, " + k + ")", EdgesSheetsTest::furnished, x -> x.ask(1, k), KIND);
      due.refuses(34, "ask(2, " + k + ")", EdgesSheetsTest::furnished, x -> x.ask(2, k), KIND);
    }
  }

  // Promise 34: "or not of that KIND, nor of one under it.": each KIND taken for each other.
  static void promise34KindOfAnotherKind() {
    String[] under = {"100000", "110000", "101000", "110100", "101010", "100001"};
    int[] worth = {10, 17, 87, 38, 77, 3};
    for (int a = 0; a < 6; a++) {
      CatDoors x = furnished();
      x.lay(4, 1, a);
      for (int k = 0; k < 6; k++) due.is(34, "KIND " + a + " taken for " + k, x.ask(4, k), under[a].charAt(k) == '1' ? worth[a] : KIND);
    }
  }

  // Promise 34: "BAD; NOTHING; KIND": in this order.
  static void promise34OrderOfRefusals() {
    due.refuses(34, "a wrong KIND, nothing there", EdgesSheetsTest::furnished, x -> x.ask(3, 6), BAD);
    due.refuses(34, "a wrong KIND, a number there", EdgesSheetsTest::furnished, x -> x.ask(2, -1), BAD);
    due.refuses(34, "nothing there", EdgesSheetsTest::furnished, x -> x.ask(3, 5), NOTHING);
  }

  // Promise 34: "WORTH of the ASKING": below 0, and the most.
  static void promise34EndsOfWorth() {
    CatDoors x = new CatDoors();
    x.asking(4, 0, 99, 0);
    x.asking(3, 0, 99, 0);
    x.lay(0, 1, 0);
    x.lay(1, 1, 1);
    due.is(34, "DAWN", x.ask(0, 2), -8);
    due.is(34, "FRIGHTENED", x.ask(1, 0), 210);
  }

  // ---- Promise 35: item

  // Promise 35: "BAD: slot".
  static void promise35Bad() {
    for (int s : new int[] {-1, 5, LOW, HIGH}) due.refuses(35, "item(" + s + ", 0)", EdgesSheetsTest::furnished, x -> x.item(s, 0), BAD);
  }

  // Promise 35: "KIND: it is no SHEET": an ASKING, a number.
  static void promise35KindOfAnotherThing() {
    due.refuses(35, "item(0, 0)", EdgesSheetsTest::furnished, x -> x.item(0, 0), KIND);
    due.refuses(35, "item(2, 0)", EdgesSheetsTest::furnished, x -> x.item(2, 0), KIND);
  }

  // Promise 35: "INDEX": below 0, behind the last; of no places none.
  static void promise35Index() {
    for (int p : new int[] {-1, 3, 23, 24, LOW, HIGH}) due.refuses(35, "item(1, " + p + ")", EdgesSheetsTest::furnished, x -> x.item(1, p), INDEX);
    CatDoors x = furnished();
    x.lay(4, 2, 3);
    due.is(35, "of no places", x.item(4, 0), INDEX);
    due.is(35, "the last place", furnished().item(1, 2), 9);
    CatDoors y = withSheet(0, 24);
    y.mark(0, 23, 6);
    y.lay(0, 2, 0);
    due.is(35, "the last of 24", y.item(0, 23), 6);
    due.is(35, "behind the last of 24", y.item(0, 24), INDEX);
  }

  // Promise 35: "KIND: NO NUMBER."
  static void promise35KindOfNoNumber() {
    due.refuses(35, "item(1, 1)", EdgesSheetsTest::furnished, x -> x.item(1, 1), KIND);
  }

  // Promise 35: "BAD: slot; NOTHING; KIND: it is no SHEET; INDEX; KIND": in this order.
  static void promise35OrderOfRefusals() {
    due.refuses(35, "no such slot, no such place", EdgesSheetsTest::furnished, x -> x.item(5, -1), BAD);
    due.refuses(35, "nothing there, no such place", EdgesSheetsTest::furnished, x -> x.item(3, -1), NOTHING);
    due.refuses(35, "no SHEET, no such place", EdgesSheetsTest::furnished, x -> x.item(0, -1), KIND);
    due.refuses(35, "no SHEET, no such place", EdgesSheetsTest::furnished, x -> x.item(2, 99), KIND);
  }

  // ---- Promise 36: rest

  // Promise 36: "BAD: slot".
  static void promise36Bad() {
    for (int s : new int[] {-1, 5, LOW, HIGH}) due.refuses(36, "rest(" + s + ", 3)", EdgesSheetsTest::furnished, x -> x.rest(s, 3), BAD);
  }

  // Promise 36: "KIND: it is no number": an ASKING, a SHEET.
  static void promise36KindOfAnotherThing() {
    due.refuses(36, "rest(0, 3)", EdgesSheetsTest::furnished, x -> x.rest(0, 3), KIND);
    due.refuses(36, "rest(1, 3)", EdgesSheetsTest::furnished, x -> x.rest(1, 3), KIND);
  }

  // Promise 36: "NO: n is 0."
  static void promise36No() {
    due.refuses(36, "rest(2, 0)", EdgesSheetsTest::furnished, x -> x.rest(2, 0), NO);
  }

  // Promise 36: "BAD: slot; NOTHING; KIND ...; NO": in this order.
  static void promise36OrderOfRefusals() {
    due.refuses(36, "no such slot, by 0", EdgesSheetsTest::furnished, x -> x.rest(5, 0), BAD);
    due.refuses(36, "nothing there, by 0", EdgesSheetsTest::furnished, x -> x.rest(3, 0), NOTHING);
    due.refuses(36, "an ASKING, by 0", EdgesSheetsTest::furnished, x -> x.rest(0, 0), KIND);
    due.refuses(36, "a SHEET, by 0", EdgesSheetsTest::furnished, x -> x.rest(1, 0), KIND);
  }

  // Promise 36, with Terms "/ cuts towards 0": the rest has the number's sign; the ends of ints, by 1 and -1 too.
  static void promise36RestsOfInts() {
    int[][] rows = {{-17, 5, -2}, {-17, -5, -2}, {17, -5, 2}, {17, 5, 2}, {LOW, -1, 0}, {LOW, 1, 0}, {LOW, LOW, 0}, {LOW, HIGH, -1}, {HIGH, LOW, HIGH}, {HIGH, -1, 0}, {0, 7, 0}, {4, 5, 4}, {5, 5, 0}};
    for (int[] r : rows) {
      CatDoors x = new CatDoors();
      x.lay(0, 3, r[0]);
      due.is(36, "the rest of " + r[0] + " by " + r[1], x.rest(0, r[1]), r[2]);
    }
  }

  public static void main(String[] args) { due.runs(EdgesSheetsTest.class); }
}
