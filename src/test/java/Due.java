/** What the tests share: answers compared with those that are due, and texts fed to the tape. */
final class Due {
  private final String name;
  private int wrong = 0;

  Due(String name) { this.name = name; }

  void is(int promise, String call, int got, int want) {
    if (got != want) {
      wrong++;
      System.out.println("promise " + promise + ": " + call + " answered " + got + ", due is " + want);
    }
  }

  void holds(int promise, String what, boolean held) { is(promise, what, held ? 1 : 0, 1); }

  void ends() {
    System.out.println(wrong == 0 ? name + ": all answers are as due" : name + ": " + wrong + " answers are not as due");
    if (wrong != 0) System.exit(1);
  }

  static void feeds(CatDoors x, String bytes) {
    int fed = (bytes.length() + 11) / 12 * 12;
    for (int i = 0; i < fed; i += 12) {
      int[] three = new int[3];
      for (int k = 0; k < 12; k++) three[k / 4] = three[k / 4] << 8 | (i + k < bytes.length() ? bytes.charAt(i + k) : 0);
      x.feed(three[0], three[1], three[2]);
    }
    x.trim(bytes.length());
  }

  static int text(CatDoors x, String bytes) {
    feeds(x, bytes);
    return x.text();
  }

  /** All that can be looked at without changing it, but the slots. */
  static String looks(CatDoors x) {
    StringBuilder b = new StringBuilder();
    for (int i = 0; i < 12; i++) b.append(x.count(i)).append(' ');
    for (int i = 0; i < 8; i++) b.append(x.house(i)).append(' ');
    for (int i = 0; i < x.count(0); i++) for (int k = 0; k < 11; k++) b.append(x.told(i, k)).append(' ');
    for (int i = 0; i < 3; i++) b.append(x.why(i)).append(' ');
    for (int i = 0; i < 4; i++) b.append(x.reads(i)).append(' ').append(x.taught(i, 1)).append(' ');
    return b.append(x.fee()).toString();
  }
}
