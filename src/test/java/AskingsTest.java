/** Promises 1 to 10: a new object, and askings. */
public final class AskingsTest {
  private static final int BAD = CatDoors.BAD, FULL = CatDoors.FULL, KIND = CatDoors.KIND;
  private static final Due due = new Due("AskingsTest");

  private static CatDoors ofAllKinds(int habit, int means) {
    CatDoors x = new CatDoors();
    for (int k = 0; k < 6; k++) x.asking(k, 5, habit, means);
    return x;
  }

  private static void newObject() {
    CatDoors x = new CatDoors();
    int[] counts = {0, 0, 50, 20, 10, 0, 0, 0, 0, 0, 0, 1};
    for (int i = 0; i < 12; i++) due.is(1, "count(" + i + ")", x.count(i), counts[i]);
    for (int i = 0; i < 8; i++) due.is(1, "house(" + i + ")", x.house(i), 0);
    for (int i = 0; i < 4; i++) due.is(1, "reads(" + i + ")", x.reads(i), CatDoors.NOTHING);
    for (int i = 0; i < 5; i++) due.is(1, "lay(" + i + ", 0, 0)", x.lay(i, 0, 0), 0);
    for (int i = 0; i < 3; i++) due.is(1, "why(" + i + ")", x.why(i), CatDoors.NONE);
    due.is(1, "back()", x.back(), CatDoors.NO);
  }

  private static void asking() {
    CatDoors x = new CatDoors();
    due.is(2, "asking(5, 23, 99, 100)", x.asking(5, 23, 99, 100), 0);
    due.is(2, "asking(0, 0, 0, 0)", x.asking(0, 0, 0, 0), 1);
    int[][] wrong = {{-1, 0, 0, 0}, {6, 0, 0, 0}, {0, -1, 0, 0}, {0, 24, 0, 0}, {0, 0, -1, 0}, {0, 0, 100, 0}, {0, 0, 0, -1}, {0, 0, 0, 101}, {Integer.MIN_VALUE, 0, 0, 0}, {0, 0, 0, Integer.MAX_VALUE}};
    for (int[] w : wrong) due.is(2, "asking of " + java.util.Arrays.toString(w), x.asking(w[0], w[1], w[2], w[3]), BAD);
    due.is(2, "count(0)", x.count(0), 2);
    for (int i = 2; i < 12; i++) due.is(2, "asking", x.asking(1, 2, 3, 4), i);
    due.is(2, "the 13th", x.asking(1, 2, 3, 4), FULL);
    due.is(2, "a wrong 13th", x.asking(1, 2, 3, 101), BAD);
    due.is(2, "count(0)", x.count(0), 12);
    due.is(2, "told(11, 3)", x.told(11, 3), 4);
  }

  private static void told() {
    CatDoors x = ofAllKinds(51, 31);
    int[][] rows = {
      {0, 5, 51, 31, 0, 51, 8, 4, 2, 31, 51}, {1, 5, 51, 31, 0, 25, 3, 6, 0, 15, 57}, {2, 5, 51, 31, 0, 51, 8, 4, 2, 31, 48},
      {3, 5, 51, 31, 0, 25, 12, 6, 7, 15, 114}, {4, 5, 51, 31, 0, 81, 16, 1, 3, 31, 40}, {5, 5, 51, 31, 0, 56, 15, 9, 1, 0, 3}};
    for (int a = 0; a < 6; a++) for (int w = 0; w < 11; w++) due.is(3, "told(" + a + ", " + w + ")", x.told(a, w), rows[a][w]);
    x.rule(5, 1);
    x.rule(6, 1);
    int[] presses = {51, 25, 31, 85, 61, 56}, means = {31, 15, 10, 15, 10, 0}, meansOut = {31, 15, 31, 100, 31, 0};
    for (int a = 0; a < 6; a++) due.is(3, "wet, threat: told(" + a + ", 5)", x.told(a, 5), presses[a]);
    for (int a = 0; a < 6; a++) due.is(3, "wet, in: told(" + a + ", 9)", x.told(a, 9), means[a]);
    x.rule(4, 1);
    for (int a = 0; a < 6; a++) due.is(3, "wet, out: told(" + a + ", 9)", x.told(a, 9), meansOut[a]);
    for (int a = 0; a < 6; a++) x.set(a, 2, 7);
    due.is(3, "rained is 0 at least", x.told(2, 5), 0);
    due.is(3, "dawn on top of that 0", x.told(4, 5), 30);
    int[][] wrong = {{-1, 0}, {6, 0}, {0, -1}, {0, 11}, {Integer.MAX_VALUE, 0}, {0, Integer.MIN_VALUE}};
    for (int[] w : wrong) due.is(3, "told(" + w[0] + ", " + w[1] + ")", x.told(w[0], w[1]), BAD);
    due.is(3, "press of 600", Due.text(x, "press 600"), 0);
    int[] most = {199, 99, 179, 159, 209, 204};
    for (int a = 0; a < 6; a++) due.is(3, "press 600: told(" + a + ", 5)", x.told(a, 5), most[a]);
    Due.text(x, "press 0-9");
    int[] least = {0, 0, 0, 60, 30, 5};
    for (int a = 0; a < 6; a++) due.is(3, "press 0-9: told(" + a + ", 5)", x.told(a, 5), least[a]);
  }

  private static void asAndTurns() {
    CatDoors x = ofAllKinds(44, 10);
    String[] under = {"100000", "110000", "101000", "110100", "101010", "100001"};
    for (int a = 0; a < 6; a++) for (int k = 0; k < 6; k++) due.is(4, "as(" + a + ", " + k + ")", x.as(a, k), under[a].charAt(k) == '1' ? 44 : KIND);
    int[][] wrong = {{-1, 0}, {6, 0}, {0, -1}, {0, 6}, {6, 6}};
    for (int[] w : wrong) due.is(4, "as(" + w[0] + ", " + w[1] + ")", x.as(w[0], w[1]), BAD);
    for (int[] w : wrong) due.is(5, "turns(" + w[0] + ", " + w[1] + ")", x.turns(w[0], w[1]), BAD);
    due.is(5, "turns(2, 5)", x.turns(2, 5), 2);
    due.is(5, "turns(2, 0)", x.turns(2, 0), 5);
    due.is(5, "turns(4, 3)", x.turns(4, 3), 4);
    due.is(5, "turns(4, 3) again", x.turns(4, 3), 3);
    due.is(5, "as(4, 1)", x.as(4, 1), 44);
    due.is(5, "as(4, 2)", x.as(4, 2), KIND);
    due.is(5, "told(4, 6)", x.told(4, 6), 12);
    due.is(5, "told(4, 3)", x.told(4, 3), 10);
  }

  private static void setAndRule() {
    CatDoors x = ofAllKinds(44, 10);
    int[] was = {0, 5, 44, 10}, most = {0, 23, 99, 100};
    for (int w = 1; w <= 3; w++) {
      due.is(6, "set to most", x.set(3, w, most[w]), was[w]);
      due.is(6, "set above", x.set(3, w, most[w] + 1), BAD);
      due.is(6, "set below", x.set(3, w, -1), BAD);
      due.is(6, "told", x.told(3, w), most[w]);
      due.is(6, "set to 0", x.set(3, w, 0), most[w]);
    }
    due.is(6, "set(3, 0, 0)", x.set(3, 0, 0), BAD);
    due.is(6, "set(3, 4, 0)", x.set(3, 4, 0), BAD);
    due.is(6, "set(6, 1, 0)", x.set(6, 1, 0), BAD);
    due.is(6, "set(-1, 1, 0)", x.set(-1, 1, 0), BAD);
    int[] first = {50, 20, 10, 0, 0, 0, 0}, high = {99, 100, 100, 1, 1, 1, 1};
    for (int w = 0; w < 7; w++) {
      due.is(7, "rule(" + w + ") to most", x.rule(w, high[w]), first[w]);
      due.is(7, "rule(" + w + ") above", x.rule(w, high[w] + 1), BAD);
      due.is(7, "rule(" + w + ") below", x.rule(w, -1), BAD);
      due.is(7, "rule(" + w + ") to 0", x.rule(w, 0), high[w]);
    }
    due.is(7, "rule(-1, 0)", x.rule(-1, 0), BAD);
    due.is(7, "rule(7, 0)", x.rule(7, 0), BAD);
    x.rule(4, 1);
    due.is(7, "house(0)", x.house(0), 1);
    due.is(7, "LEFT stays", x.house(3), 0);
  }

  private static void opens() {
    CatDoors x = ofAllKinds(90, 100);
    x.rule(0, 99);
    x.rule(3, 1);
    due.is(8, "opens(0) means it", x.opens(0), 1);
    due.is(8, "one draw", x.count(11), 1103515245 + 12345);
    due.is(8, "HABIT", x.told(0, 2), 98);
    due.is(8, "WORKED", x.told(0, 4), 1);
    due.is(8, "OUT", x.house(0), 1);
    due.is(8, "LEFT", x.house(3), 1);
    due.is(8, "opens(0) again", x.opens(0), 1);
    due.is(8, "HABIT at most 99", x.told(0, 2), 99);
    due.is(8, "IN", x.house(0), 0);
    due.is(8, "CAME", x.house(4), 1);
    due.is(8, "opens(5) never means it", x.opens(5), 0);
    due.is(8, "RISINGS", x.house(1), 3);
    due.is(8, "PAINT", x.house(2), 0);
    due.is(8, "THE HOUR stays", x.count(1), 0);
    due.is(8, "opens(6)", x.opens(6), BAD);
    due.is(8, "opens(-1)", x.opens(-1), BAD);
    due.is(8, "RISINGS", x.house(1), 3);
  }

  private static void dealAndSeed() {
    CatDoors x = new CatDoors();
    due.is(10, "seed(77)", x.seed(77), 1);
    due.is(9, "deal(0)", x.deal(0), BAD);
    due.is(9, "deal(13)", x.deal(13), BAD);
    due.is(9, "deal(-1)", x.deal(-1), BAD);
    due.is(9, "z stays", x.count(11), 77);
    due.is(9, "deal(5)", x.deal(5), 5);
    int z = 77;
    int[] by = {6, 24, 100, 101};
    for (int a = 0; a < 5; a++) {
      for (int w = 0; w < 4; w++) {
        z = z * 1103515245 + 12345;
        due.is(9, "told(" + a + ", " + w + ")", x.told(a, w), (z >>> 8) % by[w]);
      }
    }
    due.is(9, "z", x.count(11), z);
    due.is(9, "deal(12)", x.deal(12), 7);
    int after = x.count(11);
    due.is(9, "deal(1), no room", x.deal(1), 0);
    due.is(9, "z stays", x.count(11), after);
    due.is(10, "seed(least int)", x.seed(Integer.MIN_VALUE), after);
    due.is(10, "seed(0)", x.seed(0), Integer.MIN_VALUE);
    due.is(10, "count(11)", x.count(11), 0);
  }

  public static void main(String[] args) {
    newObject();
    asking();
    told();
    asAndTurns();
    setAndRule();
    opens();
    dealAndSeed();
    due.ends();
  }
}
