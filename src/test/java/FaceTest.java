import java.lang.reflect.Constructor;
import java.lang.reflect.Field;
import java.lang.reflect.Method;
import java.lang.reflect.Modifier;
import java.util.Arrays;
import java.util.Set;
import java.util.TreeSet;

/** The class has the members of the document's face, and no other one that is not private. */
public final class FaceTest {
  private static final String[] FACE = {
    "int addPoint(int, int, int, int, int, int) IllegalArgumentException IllegalStateException",
    "int addLine(int, int, int, int, int) IllegalArgumentException IllegalStateException",
    "int addVertex(int, int, int) IndexOutOfBoundsException IllegalArgumentException"
        + " UnsupportedOperationException IllegalStateException",
    "int addArea(int, int, int, int, int, int, int) IllegalArgumentException IllegalStateException",
    "int remove(int) IndexOutOfBoundsException",
    "int setWish(int, int) IndexOutOfBoundsException IllegalArgumentException",
    "int shift(int, int, int) IndexOutOfBoundsException UnsupportedOperationException",
    "int turn(int) IllegalArgumentException",
    "boolean lock(int, boolean) IndexOutOfBoundsException",
    "int features()",
    "int place()",
    "int improve(int) IllegalArgumentException",
    "int choose(int, int) IndexOutOfBoundsException IllegalArgumentException",
    "int candidates(int) IndexOutOfBoundsException",
    "int candidateOf(int) IndexOutOfBoundsException",
    "int nameFrom(int) IndexOutOfBoundsException",
    "int seenFrom(int) IndexOutOfBoundsException",
    "long cost()",
    "long leastCost() UnsupportedOperationException",
    "int left(int, int) IndexOutOfBoundsException IllegalArgumentException NoSuchElementException",
    "int top(int, int) IndexOutOfBoundsException IllegalArgumentException NoSuchElementException",
    "int widthOf(int) IndexOutOfBoundsException NoSuchElementException",
    "int nameAt(int, int, int) IllegalArgumentException NoSuchElementException",
    "int namesIn(int, int, int) IllegalArgumentException",
    "int nameIn(int, int, int, int) IllegalArgumentException NoSuchElementException",
    "int drawn()",
    "int square(int) IndexOutOfBoundsException",
    "int indexed(int, int) IllegalArgumentException NoSuchElementException",
    "float namedShare(int) IllegalArgumentException ArithmeticException",
    "double meanFrom() ArithmeticException",
    "boolean isConsistent()",
  };

  public static void main(String[] args) {
    Check check = new Check();
    check.due("the class is public and final", Cartouche.class.getModifiers(),
        Modifier.PUBLIC | Modifier.FINAL);
    Set<String> names = new TreeSet<>();
    Set<String> open = new TreeSet<>();
    for (Method method : Cartouche.class.getDeclaredMethods()) {
      if (!Modifier.isPrivate(method.getModifiers()) && !method.isSynthetic()) {
        check.due(method + " is public", method.getModifiers(), Modifier.PUBLIC);
        open.add(told(method));
        names.add(method.getName());
      }
    }
    check.due("the open methods", open, new TreeSet<>(Arrays.asList(FACE)));
    for (Method method : Cartouche.class.getDeclaredMethods()) {
      if (Modifier.isPrivate(method.getModifiers())) {
        check.due(method + " has a name of the face", names.contains(method.getName()), false);
      }
    }
    for (Field field : Cartouche.class.getDeclaredFields()) {
      check.due(field + " is private", Modifier.isPrivate(field.getModifiers()) || field.isSynthetic(), true);
    }
    Constructor<?>[] constructors = Cartouche.class.getDeclaredConstructors();
    check.due("the number of constructors", constructors.length, 1);
    check.due("the constructor's parameters", constructors[0].getParameterCount(), 0);
    check.end("FaceTest");
  }

  private static String told(Method method) {
    StringBuilder text = new StringBuilder();
    text.append(method.getReturnType().getSimpleName()).append(' ').append(method.getName()).append('(');
    String gap = "";
    for (Class<?> type : method.getParameterTypes()) {
      text.append(gap).append(type.getSimpleName());
      gap = ", ";
    }
    text.append(')');
    for (Class<?> type : method.getExceptionTypes()) {
      text.append(' ').append(type.getSimpleName());
    }
    return text.toString();
  }
}
