import java.io.IOException;
import java.lang.reflect.Field;
import java.lang.reflect.Method;
import java.lang.reflect.Modifier;
import java.nio.file.Files;
import java.nio.file.Path;
import java.util.HashMap;
import java.util.Map;
import java.util.regex.Matcher;
import java.util.regex.Pattern;

/** README.md tells every call and constant of the face, and its examples answer what it says. */
public final class ReadmeTest {
  private static final Due due = new Due("ReadmeTest");

  /** The calls that open a row of the page's table, each with how many arguments it is told with. */
  private static Map<String, Integer> toldCalls(String page) {
    Map<String, Integer> told = new HashMap<>();
    for (String row : page.split("\n")) {
      if (!row.startsWith("| `")) continue;
      for (Matcher m = Pattern.compile("`(\\w+)\\(([^)]*)\\)`").matcher(row.split("\\|")[1]); m.find(); ) {
        told.put(m.group(1), m.group(2).isEmpty() ? 0 : m.group(2).split(",").length);
      }
    }
    return told;
  }

  private static void tellsTheFace(String page) throws IllegalAccessException {
    Map<String, Integer> told = toldCalls(page);
    int calls = 0;
    for (Method m : CatDoors.class.getDeclaredMethods()) {
      if (!Modifier.isPublic(m.getModifiers())) continue;
      calls++;
      due.is(1, "arguments of " + m.getName() + " in README.md", told.getOrDefault(m.getName(), -1), m.getParameterCount());
    }
    due.is(1, "calls in README.md", told.size(), calls);
    for (Field f : CatDoors.class.getFields()) {
      due.holds(1, f.getName() + " is in README.md", page.contains("| `" + f.getName() + "` | " + f.getInt(null) + " |"));
    }
  }

  private static void examples() {
    CatDoors x = new CatDoors();
    due.is(2, "asking(0, 7, 90, 100)", x.asking(0, 7, 90, 100), 0);
    due.is(7, "rule(0, 60)", x.rule(0, 60), 50);
    int risings = x.hours(24);
    due.is(12, "house(1)", x.house(1), risings);
    due.holds(13, "behind(48, 0) has those too", x.behind(48, 0) >= risings);
    due.is(3, "told(5, 2)", x.told(5, 2), CatDoors.BAD);
    x.feed(0x66656520, 0x722b372a, 0x70202020);
    x.trim(9);
    due.is(25, "text()", x.text(), 0);
    due.is(21, "fee()", x.fee(), x.house(1) + 7 * x.house(2));
  }

  public static void main(String[] args) throws IOException, IllegalAccessException {
    tellsTheFace(Files.readString(Path.of("README.md")));
    examples();
    due.ends();
  }
}
