import java.lang.reflect.InvocationTargetException;
import java.lang.reflect.Method;
import java.lang.reflect.Modifier;
import java.util.Arrays;
import java.util.Comparator;
import java.util.function.Supplier;
import java.util.function.ToIntFunction;

/** What the tests share: answers compared with those that are due, and texts fed to the tape. */
final class Due {
  private final String name;
  private int wrong = 0;

  Due(String name) { this.name = name; }

  void is(int promise, String call, int got, int want) {
    if (got != want) {
      wrong++;
      System.out.println("promise " + promise + ": " + call + " answered " + got + ", due is " + want);
    }
  }

  void holds(int promise, String what, boolean held) { is(promise, what, held ? 1 : 0, 1); }

  void rule(int rule, String what, boolean held) {
    if (held) return;
    wrong++;
    System.out.println("rule " + rule + " of LANGUAGE.md: it does not hold that " + what);
  }

  /** Runs every edge of a class: its methods without parameters whose names begin with face, terms or promise. */
  void runs(Class<?> edges) {
    Method[] all = edges.getDeclaredMethods();
    Arrays.sort(all, Comparator.comparing(Method::getName));
    for (Method one : all) {
      boolean isEdge = one.getName().matches("(face|terms\\d?|promise\\d+)[A-Z0-9].*");
      if (!isEdge || one.getParameterCount() > 0 || !Modifier.isStatic(one.getModifiers())) continue;
      int before = wrong;
      try {
        one.invoke(null);
      } catch (InvocationTargetException e) {
        wrong++;
        System.out.println(e.getCause());
      } catch (IllegalAccessException e) {
        throw new IllegalStateException(e);
      }
      if (wrong > before) System.out.println("  in " + edges.getName() + "." + one.getName());
    }
    ends();
  }

  /** The call is refused as due, and a twin of its object that was not called looks the same in all that can be seen. */
  void refuses(int promise, String what, Supplier<CatDoors> maker, ToIntFunction<CatDoors> call, int want) {
    CatDoors called = maker.get(), twin = maker.get();
    is(promise, what, call.applyAsInt(called), want);
    holds(promise, what + " changes nothing", sees(called).equals(sees(twin)));
  }

  void ends() {
    System.out.println(wrong == 0 ? name + ": all answers are as due" : name + ": " + wrong + " answers are not as due");
    if (wrong != 0) System.exit(1);
  }

  static void feeds(CatDoors x, String bytes) {
    int fed = (bytes.length() + 11) / 12 * 12;
    for (int i = 0; i < fed; i += 12) {
      int[] three = new int[3];
      for (int k = 0; k < 12; k++) three[k / 4] = three[k / 4] << 8 | (i + k < bytes.length() ? bytes.charAt(i + k) : 0);
      x.feed(three[0], three[1], three[2]);
    }
    x.trim(bytes.length());
  }

  static int text(CatDoors x, String bytes) {
    feeds(x, bytes);
    return x.text();
  }

  /** All that can be looked at without changing it, but the slots. */
  static String looks(CatDoors x) {
    StringBuilder b = new StringBuilder();
    for (int i = 0; i < 12; i++) b.append(x.count(i)).append(' ');
    for (int i = 0; i < 8; i++) b.append(x.house(i)).append(' ');
    for (int i = 0; i < x.count(0); i++) for (int k = 0; k < 11; k++) b.append(x.told(i, k)).append(' ');
    for (int i = 0; i < 3; i++) b.append(x.why(i)).append(' ');
    for (int i = 0; i < 4; i++) b.append(x.reads(i)).append(' ').append(x.taught(i, 1)).append(' ');
    return b.append(x.fee()).toString();
  }

  /** All that can be seen of an object; it is used up by that (slot 4 holds its sheets in turn, the image comes back). */
  static String sees(CatDoors x) {
    StringBuilder b = new StringBuilder(looks(x));
    for (int i = 0; i < x.count(0); i++) b.append(' ').append(x.fine(i));
    for (int i = 0; i < x.count(8); i++) b.append(' ').append(x.textTold(i, 0)).append(' ').append(x.textTold(i, 1));
    for (int slot = 0; slot < 5; slot++) b.append(' ').append(x.ask(slot, 0)).append(' ').append(x.rest(slot, Integer.MIN_VALUE)).append(row(x, slot));
    for (int sheet = 0; sheet < 4; sheet++) {
      x.lay(4, 0, 0);
      b.append(' ').append(x.lay(4, 2, sheet)).append(' ').append(sortOf(x, sheet)).append(row(x, 4));
    }
    b.append(' ').append(x.text()).append(' ').append(x.check(1)).append(' ').append(x.back());
    return b.append(' ').append(looks(x)).toString();
  }

  /** NOTHING: missing; KIND: shorts; BAD: floats; INDEX: no places. */
  private static int sortOf(CatDoors x, int sheet) {
    int refused = x.mark(sheet, 0, CatDoors.NONE);
    return refused == 1 ? CatDoors.BAD : refused;
  }

  private static String row(CatDoors x, int slot) {
    StringBuilder b = new StringBuilder();
    for (int place = 0; place < 25; place++) {
      int item = x.item(slot, place);
      b.append(' ').append(item);
      if (item == CatDoors.INDEX || item == CatDoors.NOTHING) break;
      if (place == 0 && (x.rest(slot, 1) != CatDoors.KIND || x.ask(slot, 0) != CatDoors.KIND)) break;
    }
    return b.toString();
  }
}
