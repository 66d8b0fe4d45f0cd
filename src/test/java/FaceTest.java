import java.lang.reflect.Constructor;
import java.lang.reflect.Field;
import java.lang.reflect.Member;
import java.lang.reflect.Method;
import java.lang.reflect.Modifier;
import java.util.Arrays;
import java.util.List;
import java.util.TreeSet;

/** The public face: what the document lists and nothing else. */
public final class FaceTest {
  private static final String RANGE = " IllegalArgumentException";
  private static final String NOT_THERE = " NoSuchElementException";
  private static final String STATE = " IllegalStateException";
  private static final String SUPPORT = " UnsupportedOperationException";
  private static final String INDEX = " IndexOutOfBoundsException";
  private static final List<String> FACE = List.of(
      "about(int, int)" + RANGE,
      "catcher(int, int, int, int, int)" + RANGE + NOT_THERE + STATE,
      "code(int, int, int, int)" + RANGE + NOT_THERE + STATE,
      "define(int, int)" + RANGE + STATE,
      "fault(boolean)",
      "field(int, int)" + RANGE + NOT_THERE + STATE,
      "heap(int, int)" + INDEX,
      "map(int, int, int, int)" + RANGE + NOT_THERE,
      "method(int, int, int, int, int)" + RANGE + NOT_THERE + STATE,
      "outcome(int)" + RANGE,
      "run(int, int, int, int, boolean)" + RANGE + NOT_THERE + STATE + SUPPORT + INDEX,
      "verify()" + SUPPORT);

  public static void main(String[] args) {
    Check.due("public final class", Modifier.PUBLIC | Modifier.FINAL, JavaChain.class.getModifiers());
    methods();
    for (Field f : JavaChain.class.getDeclaredFields()) {
      isPrivate(f);
      if (Modifier.isStatic(f.getModifiers())) {
        Check.due("final: " + f.getName(), 1, Modifier.isFinal(f.getModifiers()) ? 1 : 0);
      }
    }
    Constructor<?>[] constructors = JavaChain.class.getDeclaredConstructors();
    Check.due("constructors", 1, constructors.length);
    Check.due("public constructor", 1, Modifier.isPublic(constructors[0].getModifiers()) ? 1 : 0);
    Check.due("its parameters", 0, constructors[0].getParameterCount());
    for (Class<?> inside : JavaChain.class.getDeclaredClasses()) {
      Check.due("static: " + inside, 1, Modifier.isStatic(inside.getModifiers()) ? 1 : 0);
      Check.due("not public: " + inside, 0, inside.getModifiers() & (Modifier.PUBLIC | Modifier.PROTECTED));
    }
    Check.end();
  }

  private static void methods() {
    TreeSet<String> seen = new TreeSet<>();
    TreeSet<String> names = new TreeSet<>();
    for (Method m : JavaChain.class.getDeclaredMethods()) {
      if (Modifier.isPublic(m.getModifiers())) {
        seen.add(written(m));
        names.add(m.getName());
        Check.due("answers an int: " + m.getName(), 1, m.getReturnType() == int.class ? 1 : 0);
      }
    }
    if (!seen.equals(new TreeSet<>(FACE))) {
      Check.tell("the face", FACE.toString(), seen.toString());
    }
    for (Method m : JavaChain.class.getDeclaredMethods()) {
      if (!Modifier.isPublic(m.getModifiers()) && !m.isSynthetic()) {
        isPrivate(m);
        Check.due("no name of the face: " + m.getName(), 0, names.contains(m.getName()) ? 1 : 0);
      }
    }
  }

  private static String written(Method m) {
    String types = Arrays.toString(m.getParameterTypes());
    StringBuilder written = new StringBuilder(m.getName());
    written.append("(").append(types, 1, types.length() - 1).append(")");
    for (Class<?> exception : m.getExceptionTypes()) {
      written.append(" ").append(exception.getSimpleName());
    }
    return written.toString();
  }

  private static void isPrivate(Member m) {
    Check.due("private: " + m.getName(), 1, Modifier.isPrivate(m.getModifiers()) ? 1 : 0);
  }
}
