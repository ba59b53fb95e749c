import java.lang.reflect.Constructor;
import java.lang.reflect.Field;
import java.lang.reflect.Method;
import java.lang.reflect.Modifier;
import java.util.Arrays;
import java.util.Set;
import java.util.TreeSet;

/** The public face is the document's, and nothing else of the class can be seen from outside. */
final class FaceTest {
  private static final String[] FACE = {
    "int feed(int,int,int,int,int) throws IllegalStateException",
    "int trim(int) throws IllegalArgumentException",
    "int teach()",
    "int errorAt()",
    "int count(int) throws IndexOutOfBoundsException",
    "int course(int,int) throws IndexOutOfBoundsException",
    "int key(int,int) throws IndexOutOfBoundsException",
    "int tune(int,int) throws IndexOutOfBoundsException",
    "boolean carry(int) throws IndexOutOfBoundsException",
    "int run()",
    "int turn(int,int) throws IndexOutOfBoundsException,IllegalArgumentException,"
        + "IllegalStateException",
    "int string(int,int) throws IndexOutOfBoundsException,IllegalArgumentException",
    "int setDamp(int) throws IllegalArgumentException",
    "int pass(int) throws IllegalArgumentException",
    "int off(int,int,int) throws IndexOutOfBoundsException",
    "int beats(int,int,int) throws IndexOutOfBoundsException",
    "int wolf()",
    "int triad(int) throws IndexOutOfBoundsException",
    "int sweetest()",
    "int would(int) throws IndexOutOfBoundsException",
    "int without(int) throws IndexOutOfBoundsException",
    "int temper()",
    "int lasts(int,int,int,int) throws IndexOutOfBoundsException,IllegalArgumentException",
    "double mean()",
    "long digest()",
  };

  public static void main(String[] args) {
    Rig rig = new Rig();
    Class<?> c = ClaviTuner.class;
    rig.due("modifiers", c.getModifiers(), Modifier.PUBLIC | Modifier.FINAL);
    Set<String> seen = new TreeSet<>();
    Set<String> privateNames = new TreeSet<>();
    Set<String> publicNames = new TreeSet<>();
    for (Method m : c.getDeclaredMethods()) {
      if (Modifier.isPrivate(m.getModifiers())) {
        privateNames.add(m.getName());
      } else {
        publicNames.add(m.getName());
        rig.due(m + " is plainly public", m.getModifiers(), Modifier.PUBLIC);
        seen.add(told(m));
      }
    }
    if (!seen.equals(new TreeSet<>(Arrays.asList(FACE)))) {
      rig.tell("the face is " + seen);
    }
    privateNames.retainAll(publicNames);
    rig.due("private methods with names of public ones", privateNames.size(), 0);
    for (Field f : c.getDeclaredFields()) {
      rig.due(f + " is private", Modifier.isPrivate(f.getModifiers()) ? 1 : 0, 1);
    }
    for (Constructor<?> k : c.getDeclaredConstructors()) {
      rig.due(k + " is the constructor", k.getParameterCount(), 0);
      rig.due(k + " is public", k.getModifiers(), Modifier.PUBLIC);
    }
    rig.end();
  }

  private static String told(Method m) {
    StringBuilder s = new StringBuilder();
    s.append(m.getReturnType().getSimpleName()).append(' ').append(m.getName()).append('(');
    s.append(names(m.getParameterTypes())).append(')');
    if (m.getExceptionTypes().length > 0) {
      s.append(" throws ").append(names(m.getExceptionTypes()));
    }
    return s.toString();
  }

  private static String names(Class<?>[] types) {
    StringBuilder s = new StringBuilder();
    for (Class<?> t : types) {
      s.append(s.length() == 0 ? "" : ",").append(t.getSimpleName());
    }
    return s.toString();
  }
}
