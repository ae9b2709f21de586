import java.lang.reflect.Constructor;
import java.lang.reflect.Field;
import java.lang.reflect.Method;
import java.lang.reflect.Modifier;
import java.util.Arrays;
import java.util.Set;
import java.util.TreeSet;

/** The public face: what the document lists and nothing else that can be seen from outside. */
public final class FaceTest {
  private static final Set<String> FACE = new TreeSet<>(Arrays.asList(
      "public WordArithmetic()",
      "public int WordArithmetic.takes(int)",
      "public boolean WordArithmetic.takesLongs(int)",
      "public boolean WordArithmetic.leavesLong(int)",
      "public int WordArithmetic.work(int,long,long)",
      "public long WordArithmetic.result()"));

  public static void main(String[] args) {
    Class<WordArithmetic> face = WordArithmetic.class;
    Checks.due("the class is public and final",
        face.getModifiers(), Modifier.PUBLIC | Modifier.FINAL);
    Set<String> seen = new TreeSet<>();
    for (Constructor<?> constructor : face.getDeclaredConstructors()) {
      addIfSeen(seen, constructor.getModifiers(), constructor.toString());
    }
    for (Method method : face.getDeclaredMethods()) {
      addIfSeen(seen, method.getModifiers(), method.toString());
    }
    for (Field field : face.getDeclaredFields()) {
      addIfSeen(seen, field.getModifiers(), field.toString());
      boolean isStatic = Modifier.isStatic(field.getModifiers());
      Checks.due(field + " is final if it is static",
          !isStatic || Modifier.isFinal(field.getModifiers()), true);
    }
    Checks.due("the face is " + seen + ": that it is the document's", seen.equals(FACE), true);
    Checks.end();
  }

  private static void addIfSeen(Set<String> seen, int modifiers, String text) {
    if (!Modifier.isPrivate(modifiers)) {
      seen.add(text);
    }
  }
}
