/** Promises 28 to 36: sheets and slots. */
public final class SheetsTest {
  private static final int BAD = CatDoors.BAD, NO = CatDoors.NO, NONE = CatDoors.NONE, NOTHING = CatDoors.NOTHING, KIND = CatDoors.KIND, INDEX = CatDoors.INDEX, SIZE = CatDoors.SIZE;
  private static final Due due = new Due("SheetsTest");

  /** What a place holds, by way of the last slot. */
  private static int place(CatDoors x, int sheet, int place) {
    x.lay(4, 2, sheet);
    return x.item(4, place);
  }

  private static void sheet() {
    CatDoors x = new CatDoors();
    due.is(28, "sheet(0, 0, 24)", x.sheet(0, 0, 24), 24);
    due.is(28, "sheet(1, 1, 0)", x.sheet(1, 1, 0), 0);
    int[][] wrong = {{-1, 0, 1}, {4, 0, 1}, {0, -2, 1}, {0, 2, 1}, {0, 0, 25}, {0, 1, Integer.MAX_VALUE}, {4, 0, -1}, {0, 2, -1}};
    for (int[] w : wrong) due.is(28, "sheet of " + java.util.Arrays.toString(w), x.sheet(w[0], w[1], w[2]), BAD);
    due.is(28, "sheet(0, 0, -1)", x.sheet(0, 0, -1), SIZE);
    due.is(28, "sheet(0, 1, least)", x.sheet(0, 1, Integer.MIN_VALUE), SIZE);
    x.mark(0, 23, 5);
    due.is(28, "still there", place(x, 0, 23), 5);
    due.is(28, "sheet(0, 0, 24)", x.sheet(0, 0, 24), 24);
    due.is(28, "all 0", place(x, 0, 23), 0);
    due.is(28, "sheet(0, -1, 99)", x.sheet(0, -1, 99), 0);
    due.is(28, "missing", x.mark(0, 0, 0), NOTHING);
    due.is(28, "sheet(0, -1, -99)", x.sheet(0, -1, -99), 0);
    due.is(28, "no sheet to miss", x.sheet(4, -1, 0), BAD);
  }

  private static void mark() {
    CatDoors x = new CatDoors();
    x.sheet(0, 0, 3);
    x.sheet(1, 1, 3);
    due.is(29, "mark(0, 2, 70000)", x.mark(0, 2, 70000), 1);
    due.is(29, "its lowest 16 bits", place(x, 0, 2), 70000 - 65536);
    x.mark(0, 2, 32768);
    due.is(29, "they are signed", place(x, 0, 2), -32768);
    x.mark(0, 1, CatDoors.BAD);
    due.is(29, "any int", place(x, 0, 1), (short) CatDoors.BAD);
    for (int v : new int[] {99999, -99999, 0}) {
      due.is(29, "floats: " + v, x.mark(1, 0, v), 1);
      due.is(29, "floats: " + v, place(x, 1, 0), v);
    }
    due.is(29, "floats: 100000", x.mark(1, 0, 100000), BAD);
    due.is(29, "floats: -100000", x.mark(1, 0, -100000), BAD);
    due.is(29, "no number", x.mark(1, 0, NONE), 1);
    due.is(29, "no number", place(x, 1, 0), KIND);
    due.is(29, "NONE in shorts", x.mark(0, 0, NONE), KIND);
    due.is(29, "mark(4, 0, 0)", x.mark(4, 0, 0), BAD);
    due.is(29, "mark(-1, 9, 0)", x.mark(-1, 9, 0), BAD);
    due.is(29, "mark(2, 9, 0)", x.mark(2, 9, 0), NOTHING);
    due.is(29, "mark(0, 3, NONE)", x.mark(0, 3, NONE), INDEX);
    due.is(29, "mark(0, -1, 0)", x.mark(0, -1, 0), INDEX);
    due.is(29, "mark(1, 3, 100000)", x.mark(1, 3, 100000), INDEX);
  }

  private static void pourAndReads() {
    CatDoors x = new CatDoors();
    for (int i = 0; i < 4; i++) x.asking(0, i, 10 * i, 0);
    x.sheet(0, 1, 3);
    x.mark(0, 0, -5);
    x.mark(0, 1, NONE);
    x.mark(0, 2, 500);
    due.is(30, "pour(0)", x.pour(0), 1);
    int[] habits = {0, 10, 99, 30};
    for (int i = 0; i < 4; i++) due.is(30, "HABIT " + i, x.told(i, 2), habits[i]);
    due.is(30, "pour(0) again", x.pour(0), 0);
    x.sheet(1, 0, 24);
    x.mark(1, 3, 12);
    due.is(30, "pour(1)", x.pour(1), 3);
    due.is(30, "HABIT 3", x.told(3, 2), 12);
    for (int s : new int[] {-1, 4}) due.is(30, "pour(" + s + ")", x.pour(s), BAD);
    due.is(30, "pour(2)", x.pour(2), NOTHING);
    x.sheet(3, 0, 1);
    x.mark(3, 0, 44);
    due.is(30, "pour(3)", x.pour(3), 1);
    due.is(30, "HABIT 0", x.told(0, 2), 44);
    due.is(31, "reads(3)", x.reads(3), 0);
    due.is(32, "copy of the last", x.copy(3, 0, 3, 0, 1), 1);
    due.is(33, "lay of the last", x.lay(0, 2, 3), 0);
    due.is(28, "shorts anew", x.sheet(3, 0, 1), 1);
    due.is(28, "all 0", place(x, 3, 0), 0);
    x.sheet(0, 1, 6);
    for (int i = 0; i < 6; i++) x.mark(0, i, i);
    due.is(31, "places that are no asking", x.reads(0), 4);
    x.mark(0, 4, NONE);
    due.is(31, "numbers alone", x.reads(0), 5);
    x.mark(0, 5, NONE);
    due.is(31, "none", x.reads(0), NONE);
    x.mark(0, 1, 2);
    due.is(31, "an hour that is not", x.reads(0), 1);
    x.mark(0, 0, -1);
    due.is(31, "the first", x.reads(0), 0);
    x.sheet(0, 0, 0);
    due.is(31, "no places", x.reads(0), NONE);
    for (int s : new int[] {-1, 4}) due.is(31, "reads(" + s + ")", x.reads(s), BAD);
    due.is(31, "reads(2)", x.reads(2), NOTHING);
  }

  private static void copy() {
    CatDoors x = new CatDoors();
    x.sheet(0, 0, 5);
    x.sheet(1, 0, 3);
    x.sheet(2, 1, 3);
    for (int i = 0; i < 5; i++) x.mark(0, i, i + 1);
    due.is(32, "to another", x.copy(0, 2, 1, 0, 3), 3);
    for (int i = 0; i < 3; i++) due.is(32, "place " + i, place(x, 1, i), i + 3);
    due.is(32, "to the same, onwards", x.copy(0, 0, 0, 1, 4), 4);
    int[] onwards = {1, 1, 2, 3, 4};
    for (int i = 0; i < 5; i++) due.is(32, "place " + i, place(x, 0, i), onwards[i]);
    due.is(32, "to the same, backwards", x.copy(0, 2, 0, 0, 3), 3);
    int[] backwards = {2, 3, 4, 3, 4};
    for (int i = 0; i < 5; i++) due.is(32, "place " + i, place(x, 0, i), backwards[i]);
    due.is(32, "none, at the end", x.copy(0, 5, 1, 3, 0), 0);
    int[][] index = {{0, 6, 1, 0, 0}, {0, 0, 1, 4, 0}, {0, -1, 1, 0, 1}, {0, 0, 1, -1, 1}, {0, 0, 1, 0, -1}, {0, 3, 1, 0, 3}, {0, 0, 1, 1, 3}, {0, 1, 1, 0, Integer.MAX_VALUE}, {0, Integer.MAX_VALUE, 1, 0, 1}, {0, 0, 1, Integer.MAX_VALUE, 2}, {0, Integer.MIN_VALUE, 1, 0, Integer.MIN_VALUE}};
    for (int[] w : index) due.is(32, "copy of " + java.util.Arrays.toString(w), x.copy(w[0], w[1], w[2], w[3], w[4]), INDEX);
    due.is(32, "of two sorts", x.copy(0, 9, 2, 9, 1), KIND);
    due.is(32, "from a missing one", x.copy(3, 0, 2, 0, 1), NOTHING);
    due.is(32, "to a missing one", x.copy(2, 0, 3, 0, 1), NOTHING);
    due.is(32, "copy(4, ..)", x.copy(4, 0, 3, 0, 1), BAD);
    due.is(32, "copy(.., 4, ..)", x.copy(0, 0, 4, 0, 1), BAD);
    due.is(32, "copy(.., -1, ..)", x.copy(3, 0, -1, 0, 1), BAD);
    x.mark(2, 0, NONE);
    due.is(32, "no number too", x.copy(2, 0, 2, 2, 1), 1);
    due.is(32, "no number too", place(x, 2, 2), KIND);
  }

  private static void lay() {
    CatDoors x = new CatDoors();
    x.asking(3, 1, 10, 0);
    x.sheet(0, 0, 2);
    x.mark(0, 1, 77);
    due.is(33, "the number", x.lay(0, 3, Integer.MIN_VALUE), 0);
    due.is(33, "the sheet", x.lay(0, 2, 0), 3);
    due.is(33, "the asking", x.lay(0, 1, 0), 2);
    due.is(33, "nothing", x.lay(0, 0, 999), 1);
    due.is(33, "nothing again", x.lay(0, 0, -999), 0);
    int[][] wrong = {{-1, 0, 0}, {5, 0, 0}, {0, -1, 0}, {0, 4, 0}, {0, 1, 1}, {0, 1, -1}, {0, 2, 4}, {0, 2, -1}, {5, 2, 1}};
    for (int[] w : wrong) due.is(33, "lay of " + java.util.Arrays.toString(w), x.lay(w[0], w[1], w[2]), BAD);
    due.is(33, "a missing sheet", x.lay(0, 2, 1), NOTHING);
    due.is(33, "still nothing", x.lay(0, 1, 0), 0);
    x.lay(1, 2, 0);
    x.set(0, 2, 90);
    x.turns(0, 5);
    x.mark(0, 1, 5);
    x.sheet(0, -1, 0);
    due.is(33, "the asking as it was", x.ask(0, 3), 32);
    due.is(33, "the sheet as it was", x.item(1, 1), 77);
    x.keep();
    x.lay(0, 3, 4);
    x.back();
    due.is(40, "slots stay", x.rest(0, 9), 4);
  }

  private static void askItemRest() {
    CatDoors x = new CatDoors();
    x.asking(4, 1, 30, 0);
    x.asking(1, 1, 30, 0);
    x.sheet(0, 1, 2);
    x.mark(0, 0, NONE);
    x.mark(0, 1, -5);
    x.lay(0, 1, 0);
    x.lay(1, 1, 1);
    x.lay(2, 2, 0);
    x.lay(3, 3, -17);
    int[] dawn = {61, KIND, 61, KIND, 61, KIND}, turned = {36, 36, KIND, KIND, KIND, KIND};
    for (int k = 0; k < 6; k++) {
      due.is(34, "ask(0, " + k + ")", x.ask(0, k), dawn[k]);
      due.is(34, "ask(1, " + k + ")", x.ask(1, k), turned[k]);
      due.is(34, "ask(2, " + k + ")", x.ask(2, k), KIND);
      due.is(34, "ask(3, " + k + ")", x.ask(3, k), KIND);
      due.is(34, "ask(4, " + k + ")", x.ask(4, k), NOTHING);
    }
    for (int[] w : new int[][] {{-1, 0}, {5, 0}, {0, -1}, {4, 6}}) due.is(34, "ask(" + w[0] + ", " + w[1] + ")", x.ask(w[0], w[1]), BAD);
    int[][] items = {{2, 1, -5}, {2, 0, KIND}, {2, 2, INDEX}, {2, -1, INDEX}, {0, 9, KIND}, {3, 0, KIND}, {4, 0, NOTHING}, {5, 0, BAD}, {-1, 0, BAD}};
    for (int[] w : items) due.is(35, "item(" + w[0] + ", " + w[1] + ")", x.item(w[0], w[1]), w[2]);
    int[][] rests = {{3, 5, -2}, {3, -5, -2}, {3, 0, NO}, {2, 0, KIND}, {0, 3, KIND}, {4, 0, NOTHING}, {5, 0, BAD}, {-1, 3, BAD}};
    for (int[] w : rests) due.is(36, "rest(" + w[0] + ", " + w[1] + ")", x.rest(w[0], w[1]), w[2]);
    x.lay(3, 3, Integer.MIN_VALUE);
    due.is(36, "the least int by -1", x.rest(3, -1), 0);
    due.is(36, "the least int by itself less 1", x.rest(3, Integer.MAX_VALUE), -1);
  }

  public static void main(String[] args) {
    sheet();
    mark();
    pourAndReads();
    copy();
    lay();
    askItemRest();
    due.ends();
  }
}
