/** Promises 23 to 27: the tape and texts. */
public final class TextsTest {
  private static final int BAD = CatDoors.BAD, FULL = CatDoors.FULL, NONE = CatDoors.NONE;
  private static final Due due = new Due("TextsTest");

  private static void tape() {
    CatDoors x = new CatDoors();
    for (int i = 1; i <= 8; i++) due.is(23, "feed", x.feed(-1, 0, i), 12 * i);
    due.is(23, "feed of 97 and more", x.feed(0, 0, 0), FULL);
    due.is(23, "count(10)", x.count(10), 96);
    due.is(24, "trim(97)", x.trim(97), BAD);
    due.is(24, "trim(-1)", x.trim(-1), BAD);
    due.is(24, "trim(96)", x.trim(96), 96);
    due.is(24, "trim(85)", x.trim(85), 85);
    due.is(23, "feed to 97", x.feed(0, 0, 0), FULL);
    due.is(24, "trim(84)", x.trim(84), 84);
    due.is(24, "trim(85), gone", x.trim(85), BAD);
    due.is(23, "feed to 96", x.feed(0, 0, 0), 96);
    due.is(25, "text() of such bytes", x.text(), -100);
    due.is(25, "the tape is used up", x.count(10), 0);
    due.is(24, "trim(0)", x.trim(0), 0);
    due.is(25, "text() of nothing", x.text(), -100);
    due.is(23, "the highest byte first", x.feed(0x66656520, 0x37202020, 0x20202020), 12);
    due.is(25, "text()", x.text(), 0);
    due.is(25, "fee()", x.fee(), 7);
    due.is(25, "used up", x.count(10), 0);
  }

  private static void gives(String law, int want) {
    CatDoors x = new CatDoors();
    due.is(25, "text " + law, Due.text(x, law), 0);
    due.is(21, law, x.fee(), want);
  }

  private static void values() {
    gives("fee 2+3*4", 14);
    gives("fee (2+3)*4", 20);
    gives("fee 20-5-3", 12);
    gives("fee 100/7/2", 7);
    gives("fee (0-7)/2", -3);
    gives("fee 5/0", 0);
    gives("fee 5/0+1", 1);
    gives("fee 2*3/4", 1);
    gives("fee 1<2", 1);
    gives("fee 2<2", 0);
    gives("fee 2=2", 1);
    gives("fee 3>2", 1);
    gives("fee 2>3", 0);
    gives("fee 2>2", 0);
    gives("fee 1&1", 1);
    gives("fee 1+1=2", 1);
    gives("fee 2&4", 1);
    gives("fee 2&0", 0);
    gives("fee 0|7", 1);
    gives("fee 0|0", 0);
    gives("fee 1|0&0", 1);
    gives("fee (1|0)&0", 0);
    gives("fee 1=1&2=3", 0);
    gives("fee 1=2|3=3", 1);
    gives("fee !5", 0);
    gives("fee !0", 1);
    gives("fee !0+4", 5);
    gives("fee !!9", 1);
    gives("fee !(1>2)*3", 3);
    gives("fee 0007", 7);
    gives("fee 9999*9999*9999", 9999 * 9999 * 9999);
    gives("  fee   r  +  p +1  ", 1);
    gives("fee(3)", 3);
    gives("fee!3", 0);
    gives("fee 1<(2<3)", 0);
    gives("fee ((((((((5))))))))", 5);
    gives("fee !!!!!!!!5", 1);
    gives("fee !(!(!(!(!(!(!(!(5))))))))", 1);
    gives("fee (5)+((((((((4))))))))", 9);
    gives("fee !1+!1+!1+!1+!1+!1+!1+!1+!1+!0", 1);
    gives("fee (1)+(1)+(1)+(1)+(1)+(1)+(1)+(1)+(1)+(1)", 10);
    gives("fee 1-(1-(1-(1-(1-(1-(1-(1-(1))))))))", 1);
    // -2147483648 by -1 wraps.
    gives("fee (0-2048)*1024*1024/(0-1)", Integer.MIN_VALUE);
  }

  private static void fault(String law, int place) { due.is(25, "'" + law + "'", Due.text(new CatDoors(), law), -100 - place); }

  private static void faults() {
    fault("", 0);
    fault("    ", 4);
    fault("fee", 3);
    fault("fee  ", 5);
    fault("fees 1", 0);
    fault("gee 1", 0);
    fault("fee a", 4);
    fault("fee 1za", 5);
    fault("fee za", 4);
    fault(" Fee 1", 1);
    fault("1 fee", 0);
    fault("fee1", 3);
    fault("feer", 0);
    fault("fee h", 4);
    fault("fee w", 4);
    fault("fine m", 5);
    fault("fine r", 5);
    fault("press p", 6);
    fault("fee rr", 4);
    fault("fee r p", 6);
    fault("fee r1", 5);
    fault("fee 1r", 5);
    fault("fee 1 1", 6);
    fault("fee 12345", 4);
    fault("fee 1+00001", 6);
    fault("fee 1+", 6);
    fault("fee 1+  ", 8);
    fault("fee +1", 4);
    fault("fee -1", 4);
    fault("fee 1<2<3", 7);
    fault("fee 1=2>3", 7);
    fault("fee (1<2<3)", 8);
    fault("fee (1", 6);
    fault("fee ()", 5);
    fault("fee 1)", 5);
    fault("fee (1))", 7);
    fault("fee 1!", 5);
    fault("fee 1(2)", 5);
    fault("fee !", 5);
    fault("fee R", 4);
    fault("fee 1" + (char) 233, 5);
    fault("fee 1" + (char) 0, 5);
    fault("fee\t1", 3);
    fault("fee 1 + + 2", 8);
    fault("fee (((((((((1)))))))))", 12);
    fault("fee !!!!!!!!!1", 12);
    fault("fee !(!(!(!(!(!(!(!(!1))))))))", 20);
    fault("fee !!!!!!!!((((((((1+r))))))))x", 31);
    fault("fee fee 1", 4);
  }

  private static void tellings() {
    CatDoors x = new CatDoors();
    due.is(26, "textTold(0, 0) of none", x.textTold(0, 0), BAD);
    due.is(27, "why(1) of none", x.why(1), NONE);
    due.is(25, "press", Due.text(x, "press h+m*w-3"), 0);
    due.is(25, "fine", Due.text(x, "fine (h=h)|!w"), 1);
    due.is(25, "press again", Due.text(x, "press 1"), 2);
    due.is(25, "a fault", Due.text(x, "fee 1 +"), -107);
    int[][] told = {{0, 4}, {2, 3}, {0, 1}};
    for (int t = 0; t < 3; t++) for (int w = 0; w < 2; w++) due.is(26, "textTold(" + t + ", " + w + ")", x.textTold(t, w), told[t][w]);
    int[][] wrong = {{-1, 0}, {3, 0}, {0, -1}, {0, 2}, {Integer.MAX_VALUE, 0}};
    for (int[] w : wrong) due.is(26, "textTold(" + w[0] + ", " + w[1] + ")", x.textTold(w[0], w[1]), BAD);
    due.is(27, "why(0): the last", x.why(0), 2);
    due.is(27, "why(1)", x.why(1), NONE);
    due.is(27, "why(2)", x.why(2), 1);
    due.is(27, "why(3)", x.why(3), BAD);
    due.is(27, "why(-1)", x.why(-1), BAD);
    x.keep();
    for (int i = 3; i < 14; i++) due.is(25, "text", Due.text(x, "fee " + i), i);
    due.is(25, "the 15th", Due.text(x, "fee 99"), FULL);
    due.is(25, "the tape is used up", x.count(10), 0);
    due.is(25, "a fault comes first", Due.text(x, "fee 99 9"), -107);
    due.is(25, "count(8)", x.count(8), 14);
    due.is(25, "fee() as before", x.fee(), 13);
    due.is(27, "why(1)", x.why(1), 13);
    due.is(18, "a thought with all texts", x.lamp(1), 1);
    x.back();
    due.is(40, "count(8)", x.count(8), 3);
    due.is(40, "why(1)", x.why(1), NONE);
    due.is(40, "textTold(3, 0)", x.textTold(3, 0), BAD);
    due.is(25, "text", Due.text(x, "press h*2+m/10-w"), 3);
    x.asking(0, 0, 30, 55);
    x.opens(0);
    due.is(25, "press by names", x.told(0, 5), 38 * 2 + 5 - 1);
  }

  public static void main(String[] args) {
    tape();
    values();
    faults();
    tellings();
    due.ends();
  }
}
