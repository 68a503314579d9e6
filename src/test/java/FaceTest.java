import java.lang.reflect.Constructor;
import java.lang.reflect.Field;
import java.lang.reflect.Method;
import java.lang.reflect.Modifier;
import java.util.HashSet;
import java.util.Set;
import java.util.TreeSet;

/** The face is the document's and no more. */
public final class FaceTest {
  private static final String FACE = "asking4 told2 as2 turns2 set3 rule2 opens1 deal1 seed1 hours1 house1 behind2 quiet0 firm2 givenIn2 heard2 lamp1 saved1 taught2 fee0 fine1 feed3 trim1 text0 textTold2 why1 sheet3 mark3 pour1 reads1 copy5 lay3 ask2 item2 rest2 tell1 check1 keep0 back0 count1";
  private static final String[] CONSTANTS = {"BAD", "NO", "FULL", "NONE", "NOTHING", "KIND", "INDEX", "SIZE"};
  private static final Due due = new Due("FaceTest");

  private static void methods() {
    Set<String> want = new TreeSet<>(Set.of(FACE.split(" "))), got = new TreeSet<>(), names = new HashSet<>();
    for (Method m : CatDoors.class.getDeclaredMethods()) {
      if (Modifier.isPrivate(m.getModifiers())) continue;
      names.add(m.getName());
      got.add(m.getName() + m.getParameterCount());
      boolean plain = Modifier.isPublic(m.getModifiers()) && !Modifier.isStatic(m.getModifiers()) && m.getReturnType() == int.class;
      for (Class<?> p : m.getParameterTypes()) plain &= p == int.class;
      due.holds(1, m.getName() + " is of the face", plain);
    }
    if (!want.equals(got)) due.holds(1, "the face is " + got, false);
    for (Method m : CatDoors.class.getDeclaredMethods()) if (Modifier.isPrivate(m.getModifiers())) due.holds(1, m.getName() + " is no name of the face", !names.contains(m.getName()));
    for (Class<?> c : CatDoors.class.getDeclaredClasses()) {
      due.holds(1, c.getName() + " is private and static", Modifier.isPrivate(c.getModifiers()) && Modifier.isStatic(c.getModifiers()));
      for (Method m : c.getDeclaredMethods()) {
        due.holds(1, m.getName() + " is no name of the face", !names.contains(m.getName()));
        due.holds(1, m.getName() + " has seven parameters at most", m.getParameterCount() <= 7);
      }
    }
  }

  private static void others() throws Exception {
    Constructor<?>[] made = CatDoors.class.getDeclaredConstructors();
    due.holds(1, "one public constructor without parameters", made.length == 1 && made[0].getParameterCount() == 0 && Modifier.isPublic(made[0].getModifiers()));
    due.holds(1, "public and final", Modifier.isPublic(CatDoors.class.getModifiers()) && Modifier.isFinal(CatDoors.class.getModifiers()));
    int[] values = {-1000000001, -1000000002, -1000000003, -1000000005, -1000000011, -1000000012, -1000000013, -1000000014};
    for (int i = 0; i < CONSTANTS.length; i++) due.is(1, CONSTANTS[i], CatDoors.class.getField(CONSTANTS[i]).getInt(null), values[i]);
    Set<String> constants = Set.of(CONSTANTS);
    for (Field f : CatDoors.class.getDeclaredFields()) {
      due.holds(1, f.getName() + " is private or of the face", Modifier.isPrivate(f.getModifiers()) != constants.contains(f.getName()));
      due.holds(1, f.getName() + " is final, if static", !Modifier.isStatic(f.getModifiers()) || Modifier.isFinal(f.getModifiers()));
    }
  }

  public static void main(String[] args) throws Exception {
    methods();
    others();
    due.ends();
  }
}
