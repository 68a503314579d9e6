import java.lang.reflect.Method;
import java.util.ArrayList;
import java.util.Arrays;
import java.util.Comparator;
import java.util.List;
import java.util.Random;

/** Runs by lot of 500 calls, each answer compared with the Model's; all state is looked at as it goes. */
public final class ModelTest {
  private static final int[] EDGES = {0, 1, -1, 2, 3, 4, 5, 6, 7, 10, 11, 12, 13, 14, 23, 24, 25, 30, 31, 48, 49, 60, 96, 99, 100, 101, 300, 9999, 32767, 32768, 99999, 100000, -99999, -100000, -32769, Integer.MAX_VALUE, Integer.MIN_VALUE, CatDoors.NONE, CatDoors.BAD};
  private static final String[] NAMES = {"hmw", "rp", "hw"};
  private static final String[] KEYS = {"press", "fee", "fine"};
  private final Random lot;
  private final CatDoors cat = new CatDoors();
  private final Model model = new Model();
  private final List<String> told = new ArrayList<>();
  private final Method[] methods;
  private boolean wrong = false;

  private ModelTest(long seed, Method[] methods) { lot = new Random(seed); this.methods = methods; }

  private void call(Method m, int... args) throws Exception {
    Object[] boxed = Arrays.stream(args).boxed().toArray();
    int got = (Integer) m.invoke(cat, boxed);
    int want = model.call(m.getName(), args);
    told.add(m.getName() + Arrays.toString(args) + " -> " + got);
    if (got != want && !wrong) {
      wrong = true;
      System.out.println("... " + String.join("; ", told.subList(Math.max(0, told.size() - 12), told.size())) + ", due is " + want);
    }
  }

  private void call(String name, int... args) throws Exception {
    for (Method m : methods) if (m.getName().equals(name)) { call(m, args); return; }
    throw new IllegalStateException(name);
  }

  private int number(String name, int place) {
    if (lot.nextInt(12) == 0) return EDGES[lot.nextInt(EDGES.length)];
    if (lot.nextInt(200) == 0) return lot.nextInt();
    switch (name + place) {
      case "asking1": return lot.nextInt(4);
      case "asking2": case "asking3": case "set2": return lot.nextInt(101);
      case "set1": return 1 + lot.nextInt(3);
      case "rule1": return lot.nextBoolean() ? lot.nextInt(2) : lot.nextInt(101);
      case "told1": return lot.nextInt(11);
      case "hours0": case "behind0": case "givenIn0": case "heard0": case "lamp0": case "saved0": return lot.nextInt(101);
      case "firm0": return lot.nextInt(20);
      case "behind1": return lot.nextInt(15);
      case "firm1": case "heard1": case "taught1": case "textTold1": case "sheet1": return lot.nextInt(2);
      case "sheet2": return lot.nextInt(25);
      case "mark2": return lot.nextInt(4) == 0 ? CatDoors.NONE : lot.nextInt(120) - 10;
      case "lay2": return lot.nextInt(3) == 0 ? lot.nextInt() : lot.nextInt(4);
      case "seed0": return lot.nextInt();
      case "textTold0": return lot.nextInt(8);
      case "count0": return lot.nextInt(12);
      case "check0": return 1 + lot.nextInt(30);
      case "sheet0": case "mark0": case "pour0": case "reads0": case "taught0": case "copy0": case "copy2": return lot.nextInt(3);
      case "lay0": case "ask0": case "item0": case "rest0": return lot.nextInt(4);
      case "lay1": return lot.nextInt(4);
      case "rest1": return lot.nextInt(100) - 50;
      default: return lot.nextInt(6);
    }
  }

  private String expression(int key, int depth) {
    String blank = lot.nextInt(6) == 0 ? " " : "";
    int sort = lot.nextInt(depth > 5 ? 3 : 9);
    if (sort == 0) return blank + lot.nextInt(lot.nextBoolean() ? 10 : 200);
    if (sort <= 2) return blank + NAMES[key].charAt(lot.nextInt(NAMES[key].length()));
    if (sort == 3) return blank + "!" + expression(key, depth + 3);
    if (sort == 4) return blank + "(" + expression(key, depth + 1) + blank + ")";
    return expression(key, depth + 2) + blank + "|&<=>+-*/".charAt(lot.nextInt(9)) + expression(key, depth + 2);
  }

  private String law() {
    if (lot.nextInt(12) == 0) return deepLaw();
    int key = lot.nextInt(3);
    String blank = lot.nextInt(8) == 0 ? "" : " ";
    StringBuilder b = new StringBuilder((lot.nextInt(10) == 0 ? " " : "") + KEYS[key] + blank + expression(key, lot.nextInt(4)) + (lot.nextInt(10) == 0 ? "  " : ""));
    if (lot.nextInt(3) == 0) {
      int place = lot.nextInt(b.length());
      char other = "hmwrpx019()!&|<=>+-*/ Z#".charAt(lot.nextInt(24));
      int how = lot.nextInt(4);
      if (how == 0) b.setCharAt(place, other); else if (how == 1) b.insert(place, other); else if (how == 2) b.deleteCharAt(place); else b.setCharAt(place, (char) lot.nextInt(256));
    }
    return b.toString();
  }

  private String deepLaw() {
    StringBuilder b = new StringBuilder("fee ");
    int n = 5 + lot.nextInt(14), open = 0;
    for (int i = 0; i < n; i++) { if (lot.nextBoolean()) { b.append('('); open++; } else b.append('!'); }
    b.append('r');
    for (int i = 0; i < open; i++) b.append(')');
    return b.toString();
  }

  private void tellLaw() throws Exception {
    call("trim", 0);
    String law = law();
    if (law.length() > 96) law = law.substring(0, 96);
    int fed = (law.length() + 11) / 12 * 12;
    for (int i = 0; i < fed; i += 12) {
      int[] three = new int[3];
      for (int k = 0; k < 12; k++) three[k / 4] = three[k / 4] << 8 | (i + k < law.length() ? law.charAt(i + k) : 32);
      call("feed", three);
    }
    if (lot.nextInt(5) != 0) call("trim", law.length());
    call("text");
    call("fee");
  }

  private void tellRow() throws Exception {
    call("check", 0);
    int n = 1 + lot.nextInt(30);
    List<Integer> due = model.told(n);
    int many = due.size() + (lot.nextInt(3) == 0 ? lot.nextInt(3) - 1 : 0);
    for (int i = 0; i < many; i++) call("tell", i < due.size() && lot.nextInt(150) != 0 ? due.get(i) : lot.nextInt(100));
    call("check", n);
  }

  private boolean run() throws Exception {
    int most = 500;
    while (told.size() < most && !wrong) {
      int what = lot.nextInt(40);
      if (what == 0) tellLaw();
      else if (what == 1 && lot.nextInt(3) == 0) tellRow();
      else {
        Method m = methods[lot.nextInt(methods.length)];
        int[] args = new int[m.getParameterCount()];
        for (int i = 0; i < args.length; i++) args[i] = number(m.getName(), i);
        call(m, args);
      }
    }
    return !wrong;
  }

  public static void main(String[] args) throws Exception {
    int runs = args.length > 0 ? Integer.parseInt(args[0]) : 250;
    Method[] methods = Arrays.stream(CatDoors.class.getDeclaredMethods()).filter(m -> java.lang.reflect.Modifier.isPublic(m.getModifiers())).sorted(Comparator.comparing(Method::getName)).toArray(Method[]::new);
    int bad = 0;
    for (int i = 0; i < runs && bad < 5; i++) if (!new ModelTest(i, methods).run()) bad++;
    System.out.println(bad == 0 ? "ModelTest: all answers are as due" : "ModelTest: " + bad + " runs are not as due");
    if (bad != 0) System.exit(1);
  }
}
