/** Promises 37 to 41: rows that are told, images, and counts. */
public final class RowsTest {
  private static final int BAD = CatDoors.BAD, NO = CatDoors.NO, FULL = CatDoors.FULL;
  private static final Due due = new Due("RowsTest");

  private static CatDoors dealt() {
    CatDoors x = new CatDoors();
    x.seed(11);
    x.deal(9);
    x.rule(0, 30);
    x.hours(7);
    return x;
  }

  private static void tell() {
    CatDoors x = new CatDoors();
    for (int i = 1; i <= 60; i++) due.is(37, "tell", x.tell(-i), i);
    due.is(37, "the 61st", x.tell(0), FULL);
    due.is(37, "count(9)", x.count(9), 60);
    due.is(38, "check(1) without an image", x.check(1), NO);
    due.is(38, "none wait", x.count(9), 0);
    x.tell(1);
    due.is(38, "check(0)", x.check(0), BAD);
    due.is(38, "none wait", x.count(9), 0);
    x.keep();
    x.tell(1);
    due.is(38, "check(31)", x.check(31), BAD);
    due.is(38, "none wait", x.count(9), 0);
    due.is(38, "check(least)", x.check(Integer.MIN_VALUE), BAD);
  }

  private static int[] rows(int n) {
    CatDoors x = dealt();
    int[] rows = new int[2 * n];
    for (int i = 0; i < n; i++) {
      x.hours(1);
      rows[2 * i] = x.house(6);
      rows[2 * i + 1] = x.house(1);
    }
    return rows;
  }

  private static int checked(CatDoors x, int[] rows, int many, int n) {
    for (int i = 0; i < many; i++) x.tell(i < rows.length ? rows[i] : 0);
    return x.check(n);
  }

  private static void check() {
    CatDoors x = dealt();
    x.keep();
    x.hours(3);
    x.rule(0, 99);
    int[] rows = rows(30);
    due.is(38, "all 30", checked(x, rows, 60, 30), 0);
    due.is(38, "10", checked(x, rows, 20, 10), 0);
    due.is(38, "one missing", checked(x, rows, 19, 10), 20);
    due.is(38, "one too many", checked(x, rows, 21, 10), 21);
    due.is(38, "none", checked(x, rows, 0, 10), 1);
    for (int i = 0; i < 6; i++) {
      rows[i] ^= 1;
      due.is(38, "wrong at " + i, checked(x, rows, 6, 3), 1 + i);
      rows[i] ^= 1;
    }
    due.is(38, "THE HOUR stays", x.count(1), 10);
    due.is(38, "PATIENCE stays", x.count(2), 99);
  }

  private static void images() {
    CatDoors x = dealt();
    Due.text(x, "press h*2");
    Due.text(x, "fee p*3+r");
    due.is(40, "back() without one", x.back(), NO);
    String before = Due.looks(x);
    due.is(39, "keep()", x.keep(), 9);
    due.holds(39, "keep changes nothing", before.equals(Due.looks(x)));
    for (int again = 0; again < 2; again++) {
      x.hours(50);
      x.asking(0, 0, 50, 50);
      x.turns(0, 5 - x.told(0, 0));
      x.set(1, 1, 0);
      x.set(2, 2, 1);
      x.set(3, 3, 2);
      x.opens(4);
      for (int w = 0; w < 7; w++) x.rule(w, 1);
      x.hours(5);
      Due.text(x, "fee 1");
      Due.text(x, "press 7");
      x.seed(4);
      due.is(40, "back()", x.back(), 9);
      due.holds(40, "all is as it was", before.equals(Due.looks(x)));
    }
    x.sheet(0, 0, 2);
    x.tell(8);
    x.feed(1, 2, 3);
    due.is(40, "back()", x.back(), 9);
    due.is(40, "sheets stay", x.mark(0, 1, 1), 1);
    due.is(40, "numbers that wait stay", x.count(9), 1);
    due.is(40, "the tape stays", x.count(10), 12);
    x.deal(3);
    due.is(39, "another image", x.keep(), 12);
    x.set(11, 2, 0);
    due.is(40, "back() to it", x.back(), 12);
  }

  private static void count() {
    CatDoors x = dealt();
    x.rule(1, 31);
    x.rule(2, 32);
    x.rule(3, 1);
    x.rule(5, 0);
    x.rule(6, 1);
    Due.text(x, "fee 1");
    x.feed(0, 0, 0);
    x.trim(5);
    x.tell(0);
    x.tell(0);
    x.tell(0);
    x.seed(-9);
    int[] counts = {9, 7, 30, 31, 32, 1, 0, 1, 1, 3, 5, -9};
    for (int i = 0; i < 12; i++) due.is(41, "count(" + i + ")", x.count(i), counts[i]);
    for (int w : new int[] {-1, 12, Integer.MAX_VALUE, Integer.MIN_VALUE}) due.is(41, "count(" + w + ")", x.count(w), BAD);
  }

  public static void main(String[] args) {
    tell();
    check();
    images();
    count();
    due.ends();
  }
}
