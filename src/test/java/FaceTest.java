import java.lang.reflect.Constructor;
import java.lang.reflect.Field;
import java.lang.reflect.Method;
import java.lang.reflect.Modifier;
import java.util.ArrayList;
import java.util.Arrays;
import java.util.HashSet;
import java.util.List;
import java.util.Set;
import java.util.TreeSet;

/** The class shows the document's face, and nothing beside it (rules 1 and 5 of LANGUAGE.md). */
public final class FaceTest {
  private static final String[] FACE = {
    "int term(int, int, long) IllegalArgumentException IllegalStateException",
    "int add(int, int) IndexOutOfBoundsException IllegalStateException",
    "int less(int, int, long) IndexOutOfBoundsException IllegalStateException",
    "int times(int, int) IndexOutOfBoundsException IllegalStateException",
    "int derive(int) IndexOutOfBoundsException IllegalStateException",
    "int integrate(int) IndexOutOfBoundsException IllegalStateException",
    "int rest(int, int) IndexOutOfBoundsException IllegalArgumentException",
    "int at(int, int, int) IndexOutOfBoundsException IllegalArgumentException",
    "int terms(int, int) IndexOutOfBoundsException IllegalArgumentException",
    "int degree(int, int) IndexOutOfBoundsException IllegalArgumentException",
    "int value(int, long, long, long) IndexOutOfBoundsException",
    "boolean same(int, int) IndexOutOfBoundsException",
    "int count()",
  };

  public static void main(String[] args) {
    List<String> faults = new ArrayList<>();
    Class<?> c = TowerIntegrals.class;
    if (!Modifier.isPublic(c.getModifiers()) || !Modifier.isFinal(c.getModifiers())) {
      faults.add("the class is not public and final");
    }
    checkMethods(c, faults);
    checkConstructors(c, faults);
    for (Field f : c.getDeclaredFields()) {
      if (!Modifier.isPrivate(f.getModifiers())) {
        faults.add("field not private: " + f.getName());
      }
      if (Modifier.isStatic(f.getModifiers()) && !Modifier.isFinal(f.getModifiers())) {
        faults.add("static field not final: " + f.getName());
      }
    }
    for (String fault : faults) {
      System.out.println(fault);
    }
    if (!faults.isEmpty()) {
      System.exit(1);
    }
    System.out.println("the face is the document's");
  }

  private static void checkMethods(Class<?> c, List<String> faults) {
    Set<String> due = new TreeSet<>(Arrays.asList(FACE));
    Set<String> shown = new TreeSet<>();
    Set<String> publicNames = new HashSet<>();
    Set<String> privateNames = new HashSet<>();
    for (Method m : c.getDeclaredMethods()) {
      if (Modifier.isPrivate(m.getModifiers())) {
        privateNames.add(m.getName());
      } else {
        shown.add(described(m));
        publicNames.add(m.getName());
        if (!Modifier.isPublic(m.getModifiers()) || Modifier.isStatic(m.getModifiers())) {
          faults.add("neither private nor a public method of an object: " + m.getName());
        }
      }
      if (m.getParameterCount() > 7) {
        faults.add("more than seven parameters: " + m.getName());
      }
    }
    if (!due.equals(shown)) {
      faults.add("the methods shown are " + shown + ", due are " + due);
    }
    privateNames.retainAll(publicNames);
    if (!privateNames.isEmpty()) {
      faults.add("private methods with a public one's name: " + privateNames);
    }
  }

  private static void checkConstructors(Class<?> c, List<String> faults) {
    Constructor<?>[] all = c.getDeclaredConstructors();
    if (all.length != 1 || all[0].getParameterCount() != 0 || !Modifier.isPublic(all[0].getModifiers())) {
      faults.add("not just one public constructor without parameters");
    }
  }

  private static String described(Method m) {
    StringBuilder text = new StringBuilder();
    text.append(m.getReturnType().getSimpleName()).append(' ').append(m.getName()).append('(');
    Class<?>[] types = m.getParameterTypes();
    for (int i = 0; i < types.length; i++) {
      text.append(i == 0 ? "" : ", ").append(types[i].getSimpleName());
    }
    text.append(')');
    for (Class<?> e : m.getExceptionTypes()) {
      text.append(' ').append(e.getSimpleName());
    }
    return text.toString();
  }
}
