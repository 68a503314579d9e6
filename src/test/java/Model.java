import java.util.ArrayDeque;
import java.util.ArrayList;
import java.util.Arrays;
import java.util.Deque;
import java.util.List;

/** The document once more, written otherwise (kinds as classes, texts by a stack of signs), to be compared with. */
final class Model {
  static class Asking implements Cloneable {
    int hour, habit, means, worked;
    int kind() { return 0; }
    int presses(State s) { return Math.max(0, Math.min(199, s.law(0) == null ? habit : s.law(0).value(habit, means, worked))); }
    int learns() { return 8; }
    int forgets() { return 4; }
    int scratches() { return 2; }
    int meansIt(State s) { return means; }
    int worth() { return habit; }
    Asking twin() { try { return (Asking) clone(); } catch (CloneNotSupportedException e) { throw new IllegalStateException(e); } }
  }
  static class Turned extends Asking {
    int kind() { return 1; }
    int presses(State s) { return super.presses(s) / 2; }
    int learns() { return 3; }
    int forgets() { return 6; }
    int scratches() { return 0; }
    int meansIt(State s) { return super.meansIt(s) / 2; }
    int worth() { return super.worth() + 6; }
  }
  static class Frightened extends Turned {
    int kind() { return 3; }
    int presses(State s) { return super.presses(s) + (s.threat == 1 ? 60 : 0); }
    int learns() { return super.learns() + 9; }
    int scratches() { return super.scratches() + 7; }
    int meansIt(State s) { return s.cat == 1 ? 100 : super.meansIt(s); }
    int worth() { return 2 * super.worth(); }
  }
  static class Rained extends Asking {
    int kind() { return 2; }
    int presses(State s) { return s.wet == 1 ? Math.max(0, super.presses(s) - 20) : super.presses(s); }
    int meansIt(State s) { return s.wet == 1 && s.cat == 0 ? 10 : super.meansIt(s); }
    int worth() { return 99 - habit; }
  }
  static class Dawn extends Rained {
    int kind() { return 4; }
    int presses(State s) { return super.presses(s) + 30; }
    int learns() { return 2 * super.learns(); }
    int forgets() { return 1; }
    int scratches() { return super.scratches() + 1; }
    int worth() { return super.worth() - 8; }
  }
  static class Feigned extends Asking {
    int kind() { return 5; }
    int presses(State s) { return super.presses(s) + 5; }
    int learns() { return 15; }
    int forgets() { return 9; }
    int scratches() { return 1; }
    int meansIt(State s) { return 0; }
    int worth() { return 3; }
  }
  static Asking made(int kind, int hour, int habit, int means, int worked) {
    Asking a = switch (kind) { case 1 -> new Turned(); case 2 -> new Rained(); case 3 -> new Frightened(); case 4 -> new Dawn(); case 5 -> new Feigned(); default -> new Asking(); };
    a.hour = hour; a.habit = habit; a.means = means; a.worked = worked;
    return a;
  }
  static boolean is(Asking a, int kind) {
    Class<?>[] classes = {Asking.class, Turned.class, Rained.class, Frightened.class, Dawn.class, Feigned.class};
    return classes[kind].isInstance(a);
  }

  /** Reading by two states (a piece is due; a sign is due) and a stack of what is open. */
  static final class Law {
    static final String[] KEYS = {"press", "fee", "fine"};
    static final String[] NAMES = {"hmw", "rp", "hw"};
    int key, leaves, fault = -1;
    final List<String> out = new ArrayList<>();
    Law(int[] b) {
      int i = 0, state = 0, lastEnd = -1;
      boolean compared = false;
      Deque<String> open = new ArrayDeque<>();
      Deque<Boolean> outer = new ArrayDeque<>();
      while (true) {
        while (i < b.length && b[i] == 32) i++;
        if (i == b.length) { if (state != 2 || open.contains("(")) fault = i; break; }
        int from = i;
        boolean letters = b[i] >= 97 && b[i] <= 122, digits = b[i] >= 48 && b[i] <= 57;
        StringBuilder w = new StringBuilder();
        do { w.append((char) b[i++]); } while (i < b.length && (letters && b[i] >= 97 && b[i] <= 122 || digits && b[i] >= 48 && b[i] <= 57));
        String t = w.toString();
        boolean word = letters || digits;
        boolean ok = !(word && lastEnd == from);
        if (word) lastEnd = i;
        if (ok && state == 0) {
          key = Arrays.asList(KEYS).indexOf(t);
          ok = key >= 0;
          state = 1;
        } else if (ok && state == 1) {
          long parens = open.stream().filter("("::equals).count(), nots = open.stream().filter("!"::equals).count();
          if (digits) ok = t.length() <= 4;
          else if (letters) ok = t.length() == 1 && NAMES[key].contains(t);
          else if (t.equals("(")) { ok = parens < 8; open.push("("); outer.push(compared); compared = false; }
          else if (t.equals("!")) { ok = nots < 8; open.push("!"); }
          else ok = false;
          if (word && ok) { leaves++; out.add(t); pieceEnds(open); state = 2; }
        } else if (ok) {
          if (t.equals(")")) {
            ok = open.contains("(");
            if (ok) { while (!open.peek().equals("(")) out.add(open.pop()); open.pop(); compared = outer.pop(); pieceEnds(open); }
          } else if ("|&<=>+-*/".contains(t)) {
            boolean test = "<=>".contains(t);
            ok = !(test && compared);
            if (ok) {
              while (!open.isEmpty() && !open.peek().equals("(") && strength(open.peek()) >= strength(t)) out.add(open.pop());
              open.push(t);
              if (test) compared = true;
              if (t.equals("&") || t.equals("|")) compared = false;
              state = 1;
            }
          } else ok = false;
        }
        if (!ok) { fault = from; break; }
      }
      while (!open.isEmpty()) out.add(open.pop());
    }
    private void pieceEnds(Deque<String> open) { while (!open.isEmpty() && open.peek().equals("!")) out.add(open.pop()); }
    private static int strength(String sign) { return switch (sign) { case "|" -> 0; case "&" -> 1; case "<", "=", ">" -> 2; case "+", "-" -> 3; default -> 4; }; }
    int value(int a, int b, int c) {
      Deque<Integer> s = new ArrayDeque<>();
      int[] named = {a, b, c};
      for (String t : out) {
        if (Character.isDigit(t.charAt(0))) s.push(Integer.parseInt(t));
        else if (Character.isLetter(t.charAt(0))) s.push(named[NAMES[key].indexOf(t)]);
        else if (t.equals("!")) s.push(s.pop() == 0 ? 1 : 0);
        else {
          int y = s.pop(), x = s.pop();
          s.push(switch (t) {
            case "|" -> (x != 0 | y != 0) ? 1 : 0;
            case "&" -> (x != 0 & y != 0) ? 1 : 0;
            case "<" -> x < y ? 1 : 0;
            case "=" -> x == y ? 1 : 0;
            case ">" -> x > y ? 1 : 0;
            case "+" -> x + y;
            case "-" -> x - y;
            case "*" -> x * y;
            default -> y == 0 ? 0 : (int) ((long) x / y);
          });
        }
      }
      return s.pop();
    }
  }

  static final class State {
    int cat, patience = 50, rain = 20, tom = 10, flap, wet, threat, risings, paint, left, came, strangers, hour, z = 1;
    final List<Asking> askings = new ArrayList<>();
    final List<Law> laws = new ArrayList<>();
    State twin() {
      State s = new State();
      s.cat = cat; s.patience = patience; s.rain = rain; s.tom = tom; s.flap = flap; s.wet = wet; s.threat = threat;
      s.risings = risings; s.paint = paint; s.left = left; s.came = came; s.strangers = strangers; s.hour = hour; s.z = z;
      for (Asking a : askings) s.askings.add(a.twin());
      s.laws.addAll(laws);
      return s;
    }
    int lawNumber(int key) { for (int i = laws.size() - 1; i >= 0; i--) if (laws.get(i).key == key) return i; return -1; }
    Law law(int key) { int i = lawNumber(key); return i < 0 ? null : laws.get(i); }
    int draw() { z = (int) (z * 1103515245L + 12345L); return z >>> 8; }
    State after(int n) { State s = twin(); for (int i = 0; i < n; i++) s.pass(); return s; }
    void pass() {
      wet = draw() % 100 < rain ? 1 : 0;
      threat = draw() % 100 < tom ? 1 : 0;
      for (Asking a : askings) {
        if (a.hour != hour % 24 || draw() % 100 >= a.habit) continue;
        if (flap == 1) leaveOrCome(a);
        else if (a.presses(this) > patience) risen(a);
        else { paint += a.scratches(); a.habit = Math.max(0, a.habit - a.forgets()); }
      }
      if (flap == 1 && threat == 1) strangers++;
      hour++;
    }
    int risen(Asking a) { risings++; worked(a); return leaveOrCome(a); }
    static void worked(Asking a) { a.worked++; a.habit = Math.min(99, a.habit + a.learns()); }
    int leaveOrCome(Asking a) {
      if (draw() % 100 >= a.meansIt(this)) return 0;
      if (cat == 0) left++; else came++;
      cat = 1 - cat;
      return 1;
    }
    int habits() { return askings.stream().mapToInt(a -> a.habit).sum(); }
  }

  private State s = new State();
  private State image;
  private final List<Integer> tape = new ArrayList<>();
  private final List<Integer> waiting = new ArrayList<>();
  private final Integer[][] sheets = new Integer[4][];
  private final int[] sorts = new int[4];
  private final Object[] slots = new Object[5];

  private static boolean in(int v, int low, int high) { return v >= low && v <= high; }
  private boolean known(int asking) { return in(asking, 0, s.askings.size() - 1); }

  int call(String name, int... a) {
    switch (name) {
      case "asking":
        if (!in(a[0], 0, 5) || !in(a[1], 0, 23) || !in(a[2], 0, 99) || !in(a[3], 0, 100)) return CatDoors.BAD;
        if (s.askings.size() == 12) return CatDoors.FULL;
        s.askings.add(made(a[0], a[1], a[2], a[3], 0));
        return s.askings.size() - 1;
      case "told": {
        if (!known(a[0]) || !in(a[1], 0, 10)) return CatDoors.BAD;
        Asking x = s.askings.get(a[0]);
        return new int[] {x.kind(), x.hour, x.habit, x.means, x.worked, x.presses(s), x.learns(), x.forgets(), x.scratches(), x.meansIt(s), x.worth()}[a[1]];
      }
      case "as":
        if (!known(a[0]) || !in(a[1], 0, 5)) return CatDoors.BAD;
        return is(s.askings.get(a[0]), a[1]) ? s.askings.get(a[0]).habit : CatDoors.KIND;
      case "turns": {
        if (!known(a[0]) || !in(a[1], 0, 5)) return CatDoors.BAD;
        Asking x = s.askings.get(a[0]);
        s.askings.set(a[0], made(a[1], x.hour, x.habit, x.means, x.worked));
        return x.kind();
      }
      case "set": {
        if (!known(a[0]) || !in(a[1], 1, 3) || !in(a[2], 0, new int[] {0, 23, 99, 100}[a[1]])) return CatDoors.BAD;
        Asking x = s.askings.get(a[0]);
        int was = new int[] {0, x.hour, x.habit, x.means}[a[1]];
        if (a[1] == 1) x.hour = a[2]; else if (a[1] == 2) x.habit = a[2]; else x.means = a[2];
        return was;
      }
      case "rule": return rule(a[0], a[1]);
      case "opens": return known(a[0]) ? s.risen(s.askings.get(a[0])) : CatDoors.BAD;
      case "deal": {
        if (!in(a[0], 1, 12)) return CatDoors.BAD;
        int came = 0;
        while (came < a[0] && s.askings.size() < 12) {
          int kind = s.draw() % 6, hour = s.draw() % 24, habit = s.draw() % 100, means = s.draw() % 101;
          s.askings.add(made(kind, hour, habit, means, 0));
          came++;
        }
        return came;
      }
      case "seed": { int was = s.z; s.z = a[0]; return was; }
      case "hours": {
        if (!in(a[0], 1, 100)) return CatDoors.BAD;
        int before = s.risings;
        for (int i = 0; i < a[0] && s.hour < 9999; i++) s.pass();
        return s.risings - before;
      }
      case "house": {
        if (a[0] == 7) {
          for (int d = 0; d < 24; d++) {
            int set = 0;
            for (int i = 0; i < s.askings.size(); i++) if (s.askings.get(i).habit > 0 && s.askings.get(i).hour == (s.hour + d) % 24) set += 1 << i;
            if (set != 0) return set;
          }
          return 0;
        }
        return in(a[0], 0, 6) ? new int[] {s.cat, s.risings, s.paint, s.left, s.came, s.strangers, s.habits()}[a[0]] : CatDoors.BAD;
      }
      case "feed":
        if (tape.size() + 12 > 96) return CatDoors.FULL;
        for (int v : a) for (int i = 3; i >= 0; i--) tape.add(v >> 8 * i & 255);
        return tape.size();
      case "trim":
        if (!in(a[0], 0, tape.size())) return CatDoors.BAD;
        while (tape.size() > a[0]) tape.remove(tape.size() - 1);
        return a[0];
      case "text": {
        Law law = new Law(tape.stream().mapToInt(Integer::intValue).toArray());
        tape.clear();
        if (law.fault >= 0) return -100 - law.fault;
        if (s.laws.size() == 14) return CatDoors.FULL;
        s.laws.add(law);
        return s.laws.size() - 1;
      }
      case "textTold":
        if (!in(a[0], 0, s.laws.size() - 1) || !in(a[1], 0, 1)) return CatDoors.BAD;
        return a[1] == 0 ? s.laws.get(a[0]).key : s.laws.get(a[0]).leaves;
      case "why":
        if (!in(a[0], 0, 2)) return CatDoors.BAD;
        return s.law(a[0]) == null ? CatDoors.NONE : s.lawNumber(a[0]);
      case "tell":
        if (waiting.size() == 60) return CatDoors.FULL;
        waiting.add(a[0]);
        return waiting.size();
      case "check": {
        List<Integer> given = new ArrayList<>(waiting);
        waiting.clear();
        if (!in(a[0], 1, 30)) return CatDoors.BAD;
        if (image == null) return CatDoors.NO;
        List<Integer> due = told(a[0]);
        for (int i = 0; i < Math.max(given.size(), due.size()); i++) if (i >= given.size() || i >= due.size() || !given.get(i).equals(due.get(i))) return 1 + i;
        return 0;
      }
      case "keep": image = s.twin(); return s.askings.size();
      case "back": if (image == null) return CatDoors.NO; s = image.twin(); return s.askings.size();
      case "count":
        return in(a[0], 0, 11) ? new int[] {s.askings.size(), s.hour, s.patience, s.rain, s.tom, s.flap, s.wet, s.threat, s.laws.size(), waiting.size(), tape.size(), s.z}[a[0]] : CatDoors.BAD;
      default: return name.length() > 0 && isThought(name) ? thought(name, a) : ofSheets(name, a);
    }
  }

  /** The hours told of the image; empty, if there is none. */
  List<Integer> told(int n) {
    List<Integer> due = new ArrayList<>();
    if (image == null) return due;
    State t = image.twin();
    for (int i = 0; i < n && t.hour < 9999; i++) { t.pass(); due.add(t.habits()); due.add(t.risings); }
    return due;
  }

  private int rule(int what, int v) {
    if (!in(what, 0, 6) || !in(v, 0, what == 0 ? 99 : what < 3 ? 100 : 1)) return CatDoors.BAD;
    int was = new int[] {s.patience, s.rain, s.tom, s.flap, s.cat, s.wet, s.threat}[what];
    switch (what) { case 0 -> s.patience = v; case 1 -> s.rain = v; case 2 -> s.tom = v; case 3 -> s.flap = v; case 4 -> s.cat = v; case 5 -> s.wet = v; default -> s.threat = v; }
    return was;
  }

  private static boolean isThought(String name) { return Arrays.asList("behind", "quiet", "firm", "givenIn", "heard", "lamp", "saved", "taught", "fee", "fine").contains(name); }

  private int thought(String name, int[] a) {
    switch (name) {
      case "behind": {
        if (!in(a[0], 0, 100) || !in(a[1], 0, 2 + s.askings.size())) return CatDoors.BAD;
        State t = s.after(a[0]);
        return a[1] == 0 ? t.risings : a[1] == 1 ? t.paint : a[1] == 2 ? t.cat : t.askings.get(a[1] - 3).habit;
      }
      case "quiet": {
        State t = s.twin();
        for (int h = 0; h <= 300; h++, t.pass()) if (t.askings.stream().allMatch(x -> x.habit == 0)) return h;
        return CatDoors.NONE;
      }
      case "firm": {
        if (!in(a[0], 1, 48) || !in(a[1], 0, 1)) return CatDoors.BAD;
        int[] sums = new int[100];
        for (int p = 0; p < 100; p++) { State t = s.twin(); t.patience = p; sums[p] = t.after(a[0]).habits(); }
        int least = Arrays.stream(sums).min().getAsInt();
        int p = 0;
        while (sums[p] != least) p++;
        return a[1] == 0 ? p : least;
      }
      case "givenIn": {
        if (!in(a[0], 1, 100) || !known(a[1])) return CatDoors.BAD;
        State t = s.twin();
        State.worked(t.askings.get(a[1]));
        return t.after(a[0]).habits() - s.after(a[0]).habits();
      }
      case "heard": {
        if (!in(a[0], 1, 100) || !in(a[1], 0, 1)) return CatDoors.BAD;
        int best = CatDoors.NONE, fewest = 0;
        for (int i = s.askings.size() - 1; i >= 0; i--) {
          State t = s.twin();
          t.askings.get(i).habit = 0;
          int r = t.after(a[0]).risings;
          if (best == CatDoors.NONE || r <= fewest) { best = i; fewest = r; }
        }
        return a[1] == 0 || best == CatDoors.NONE ? best : fewest;
      }
      case "lamp": {
        if (!in(a[0], 1, 100)) return CatDoors.BAD;
        int in = 0;
        for (int i = 1; i <= a[0]; i++) in += 1 - s.after(i).cat;
        return in;
      }
      case "saved": {
        if (!in(a[0], 1, 100)) return CatDoors.BAD;
        State with = s.twin(), without = s.twin();
        with.flap = 1;
        without.flap = 0;
        return without.after(a[0]).risings - with.after(a[0]).risings;
      }
      case "taught": {
        if (!in(a[0], 0, 3) || !in(a[1], 0, 1)) return CatDoors.BAD;
        if (sheets[a[0]] == null) return CatDoors.NOTHING;
        int best = CatDoors.NONE, least = CatDoors.NONE;
        for (int i = s.askings.size() - 1; i >= 0; i--) {
          int sum = 0;
          for (int k = 0; k < Math.min(12, sheets[a[0]].length); k++) if (sheets[a[0]][k] != null) sum += Math.abs(s.after(24 * k).askings.get(i).habit - sheets[a[0]][k]);
          if (best == CatDoors.NONE || sum <= least) { best = i; least = sum; }
        }
        return a[1] == 0 ? best : least;
      }
      case "fee": return s.law(1) == null ? s.paint : s.law(1).value(s.risings, s.paint, 0);
      default:
        if (!known(a[0])) return CatDoors.BAD;
        Asking x = s.askings.get(a[0]);
        return s.law(2) == null ? x.worked : s.law(2).value(x.habit, x.worked, 0);
    }
  }

  private int ofSheets(String name, int[] a) {
    switch (name) {
      case "sheet":
        if (!in(a[0], 0, 3) || !in(a[1], -1, 1) || a[1] >= 0 && a[2] > 24) return CatDoors.BAD;
        if (a[1] == -1) { sheets[a[0]] = null; return 0; }
        if (a[2] < 0) return CatDoors.SIZE;
        sheets[a[0]] = new Integer[a[2]];
        Arrays.fill(sheets[a[0]], 0);
        sorts[a[0]] = a[1];
        return a[2];
      case "mark":
        if (!in(a[0], 0, 3)) return CatDoors.BAD;
        if (sheets[a[0]] == null) return CatDoors.NOTHING;
        if (!in(a[1], 0, sheets[a[0]].length - 1)) return CatDoors.INDEX;
        if (sorts[a[0]] == 0 && a[2] == CatDoors.NONE) return CatDoors.KIND;
        if (sorts[a[0]] == 1 && a[2] != CatDoors.NONE && !in(a[2], -99999, 99999)) return CatDoors.BAD;
        sheets[a[0]][a[1]] = a[2] == CatDoors.NONE ? null : Integer.valueOf(sorts[a[0]] == 0 ? (short) a[2] : a[2]);
        return 1;
      case "pour": {
        if (!in(a[0], 0, 3)) return CatDoors.BAD;
        if (sheets[a[0]] == null) return CatDoors.NOTHING;
        State was = s.twin();
        int n = 0;
        for (int i = 0; i < s.askings.size(); i++) {
          if (i < sheets[a[0]].length && sheets[a[0]][i] != null) s.askings.get(i).habit = Math.max(0, Math.min(99, sheets[a[0]][i]));
          if (s.askings.get(i).habit != was.askings.get(i).habit) n++;
        }
        return n;
      }
      case "reads":
        if (!in(a[0], 0, 3)) return CatDoors.BAD;
        if (sheets[a[0]] == null) return CatDoors.NOTHING;
        for (int i = 0; i < sheets[a[0]].length; i++) {
          if (sheets[a[0]][i] == null) continue;
          if (i >= s.askings.size() || s.askings.get(i).hour != sheets[a[0]][i]) return i;
        }
        return CatDoors.NONE;
      case "copy": {
        if (!in(a[0], 0, 3) || !in(a[2], 0, 3)) return CatDoors.BAD;
        if (sheets[a[0]] == null || sheets[a[2]] == null) return CatDoors.NOTHING;
        if (sorts[a[0]] != sorts[a[2]]) return CatDoors.KIND;
        try { System.arraycopy(sheets[a[0]], a[1], sheets[a[2]], a[3], a[4]); } catch (IndexOutOfBoundsException e) { return CatDoors.INDEX; }
        return a[4];
      }
      case "lay": {
        if (!in(a[0], 0, 4) || !in(a[1], 0, 3) || a[1] == 1 && !known(a[2]) || a[1] == 2 && !in(a[2], 0, 3)) return CatDoors.BAD;
        if (a[1] == 2 && sheets[a[2]] == null) return CatDoors.NOTHING;
        Object was = slots[a[0]];
        slots[a[0]] = a[1] == 0 ? null : a[1] == 1 ? s.askings.get(a[2]).twin() : a[1] == 2 ? sheets[a[2]].clone() : (Object) a[2];
        return was == null ? 0 : was instanceof Asking ? 1 : was instanceof Integer[] ? 2 : 3;
      }
      case "ask":
        if (!in(a[0], 0, 4) || !in(a[1], 0, 5)) return CatDoors.BAD;
        if (slots[a[0]] == null) return CatDoors.NOTHING;
        return slots[a[0]] instanceof Asking x && is(x, a[1]) ? x.worth() : CatDoors.KIND;
      case "item":
        if (!in(a[0], 0, 4)) return CatDoors.BAD;
        if (slots[a[0]] == null) return CatDoors.NOTHING;
        if (!(slots[a[0]] instanceof Integer[])) return CatDoors.KIND;
        Integer[] row = (Integer[]) slots[a[0]];
        if (!in(a[1], 0, row.length - 1)) return CatDoors.INDEX;
        return row[a[1]] == null ? CatDoors.KIND : row[a[1]];
      case "rest":
        if (!in(a[0], 0, 4)) return CatDoors.BAD;
        if (slots[a[0]] == null) return CatDoors.NOTHING;
        if (!(slots[a[0]] instanceof Integer)) return CatDoors.KIND;
        return a[1] == 0 ? CatDoors.NO : (int) ((long) (Integer) slots[a[0]] % a[1]);
      default: throw new IllegalArgumentException(name);
    }
  }
}
