import java.io.IOException;
import java.lang.reflect.Field;
import java.lang.reflect.Method;
import java.lang.reflect.Modifier;
import java.nio.file.Files;
import java.nio.file.Path;
import java.util.ArrayDeque;
import java.util.ArrayList;
import java.util.Deque;
import java.util.LinkedHashMap;
import java.util.List;
import java.util.Map;
import java.util.Set;
import java.util.TreeSet;
import java.util.regex.Matcher;
import java.util.regex.Pattern;

/** The rules of LANGUAGE.md that can be seen in the source, or in the classes that come of it. */
public final class LanguageTest {
  private static final Path SOURCE = Path.of("src/main/java/CatDoors.java");
  private static final String FORBIDDEN = "\\b(throw|throws|try|catch|synchronized|assert|import|package|var|hashCode|toString|native|volatile|float|double)\\b|->|::|\\bnew [A-Za-z]+\\([^)]*\\) *\\{|Exact\\(";
  // What the class uses of the list in rule 4; another name of that list may be added here.
  private static final Set<String> LIBRARY = Set.of("Math.min", "Math.max", "Math.abs", "System.arraycopy");
  private static final Set<String> OF_TEXTS = Set.of("length", "charAt", "indexOf");
  private static final Set<Class<?>> STATIC_TYPES = Set.of(int.class, long.class, boolean.class, char.class, String.class, int[].class, long[].class, char[].class, byte[].class);
  private static final Pattern CLASS = Pattern.compile("\\bclass (\\w+) \\{");
  private static final Pattern METHOD = Pattern.compile("(?m)^ +(?:(?:public|private|static|final) )*(?:[\\w\\[\\]]+ )?(\\w+)\\([^()]*\\) \\{$");
  private static final Pattern CALL = Pattern.compile("(\\w+\\.)?(\\w+)\\(");
  private static final Due due = new Due("LanguageTest");

  /** A method or constructor: the class that has it, its name, its lines, what it calls by name, whether it makes objects. */
  private record Part(String owner, String name, int lines, Set<String> calls, boolean makes) { }

  private static void holds(int rule, String what, boolean held) { due.rule(rule, what, held); }

  /** Comments and what stands in quotes are no code. */
  private static String code() throws IOException {
    String all = Files.readString(SOURCE);
    holds(4, "signs 1 to 127 alone", all.chars().allMatch(c -> c > 0 && c < 128));
    return all.replaceAll("(?s)/\\*.*?\\*/", "").replaceAll("//[^\n]*", "").replaceAll("'[^']'", "0").replaceAll("\"[^\"]*\"", "\"\"");
  }

  private static int closing(String code, int open) {
    int depth = 0;
    for (int i = open; i < code.length(); i++) {
      if (code.charAt(i) == '{') depth++;
      if (code.charAt(i) == '}' && --depth == 0) return i;
    }
    throw new IllegalStateException("no end of " + open);
  }

  private static String ownerOf(String code, int place) {
    String owner = "";
    for (Matcher m = CLASS.matcher(code); m.find() && m.start() < place; ) if (closing(code, m.end() - 1) > place) owner = m.group(1);
    return owner;
  }

  private static List<Part> parts(String code) {
    List<Part> parts = new ArrayList<>();
    for (Matcher m = METHOD.matcher(code); m.find(); ) {
      String body = code.substring(m.end() - 1, closing(code, m.end() - 1));
      Set<String> calls = new TreeSet<>();
      for (Matcher c = CALL.matcher(body); c.find(); ) calls.add(LIBRARY.contains(c.group()) ? c.group() : c.group(2));
      parts.add(new Part(ownerOf(code, m.start()), m.group(1), (int) body.lines().count() + 1, calls, body.contains("new ")));
    }
    return parts;
  }

  /** Every method that the classes have was found in the source, so that none goes unseen here. */
  private static void allIsSeen(List<Part> parts) {
    Map<String, Integer> found = new LinkedHashMap<>();
    for (Part p : parts) found.merge(p.owner + "." + p.name, 1, Integer::sum);
    for (Class<?> c : CatDoors.class.getNestMembers()) for (Method m : c.getDeclaredMethods()) holds(11, m + " is seen", found.containsKey(c.getSimpleName() + "." + m.getName()));
  }

  private static void words(String code) {
    for (Matcher m = Pattern.compile(FORBIDDEN).matcher(code); m.find(); ) holds(6, "no '" + m.group() + "'", false);
    for (Matcher m = Pattern.compile("while \\(true\\)|for \\([^;)]*;\\s*;").matcher(code); m.find(); ) holds(9, "an end in '" + m.group() + "'", false);
  }

  /** No name of the library but those that are listed; what else is called is the class's own. */
  private static void library(String code, List<Part> parts) {
    Set<String> own = new TreeSet<>();
    for (Part p : parts) own.add(p.name);
    for (Matcher m = Pattern.compile("\\b(Integer|Long|Short|Byte|Character|Boolean|Object|Math|System|Arrays|List|ArrayList|StringBuilder|Iterator)\\b(\\.\\w+)?").matcher(code); m.find(); ) holds(4, m.group() + " is of the list", LIBRARY.contains(m.group()));
    for (Matcher m = Pattern.compile("\\.(\\w+)\\(").matcher(code); m.find(); ) {
      boolean listed = OF_TEXTS.contains(m.group(1)) || LIBRARY.stream().anyMatch(one -> one.endsWith("." + m.group(1)));
      holds(4, m.group(1) + " is of the list or of the class", listed || own.contains(m.group(1)));
    }
  }

  private static void classes() {
    Class<?>[] all = CatDoors.class.getNestMembers();
    holds(11, "some twelve classes", all.length <= 13);
    for (Class<?> c : all) {
      boolean nested = c == CatDoors.class || c.isMemberClass() && Modifier.isStatic(c.getModifiers());
      holds(2, c.getName() + " is a static nested class", nested);
      int fields = 0;
      for (Field f : c.getDeclaredFields()) {
        if (!Modifier.isStatic(f.getModifiers())) fields++;
        else holds(5, f + " is a constant", Modifier.isFinal(f.getModifiers()) && STATIC_TYPES.contains(f.getType()));
      }
      holds(11, c.getName() + " has some twenty fields", fields <= 20);
      for (Method m : c.getDeclaredMethods()) holds(11, m + " takes seven at most", m.getParameterCount() <= 7);
    }
  }

  /** The longest chain of calls from a part on, the library's among them; a part that is open already is recursion. */
  private static int depth(Part from, List<Part> parts, Deque<Part> open) {
    int deepest = 0;
    open.push(from);
    for (String call : from.calls) {
      if (LIBRARY.contains(call) || OF_TEXTS.contains(call)) deepest = Math.max(deepest, 1);
      for (Part p : parts) if (p.name.equals(call) && !open.contains(p)) deepest = Math.max(deepest, depth(p, parts, open));
    }
    open.pop();
    return 1 + deepest;
  }

  private static void methods(List<Part> parts) {
    for (Part p : parts) {
      holds(11, p.owner + "." + p.name + " has some sixty lines, not " + p.lines, p.lines <= 60);
      holds(12, p.owner + "." + p.name + " makes no objects", !p.makes || p.name.equals(p.owner) || p.name.equals("readsText"));
      int depth = depth(p, parts, new ArrayDeque<>());
      holds(11, p.owner + "." + p.name + " goes eight calls deep, not " + depth, depth <= 8);
    }
  }

  public static void main(String[] args) throws IOException {
    String code = code();
    List<Part> parts = parts(code);
    allIsSeen(parts);
    words(code);
    library(code, parts);
    classes();
    methods(parts);
    due.ends();
  }
}
