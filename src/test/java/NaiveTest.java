import java.lang.reflect.InvocationTargetException;
import java.lang.reflect.Method;
import java.lang.reflect.Modifier;
import java.util.ArrayList;
import java.util.Arrays;
import java.util.Comparator;
import java.util.List;

/** Long runs of calls, each answer compared with that of NaiveMap. The runs are the same each time. */
public final class NaiveTest {
  private static final int CALLS = 512;

  private long state;
  private int grid;
  private int numbers;
  private int freeFeatures;
  private NaiveMap naive;
  private Object[] lastTile = {0, 0, 0};

  public static void main(String[] args) throws Exception {
    int runs = args.length > 0 ? Integer.parseInt(args[0]) : 60;
    Check check = new Check();
    for (int run = 1; run <= runs; run++) {
      new NaiveTest().run(run, check);
    }
    check.end("NaiveTest");
  }

  private int below(int bound) {
    state = state * 6364136223846793005L + 1442695040888963407L;
    return (int) Math.floorMod(state >>> 33, (long) bound);
  }

  private boolean rarely(int one) {
    return below(one) == 0;
  }

  private void run(int run, Check check) throws Exception {
    state = run * 7919L;
    // Some maps are crowded, some are wide, some have few features so that all placements can be tried.
    grid = new int[] {1000, 120, 400, 40, 15}[run % 5];
    freeFeatures = run % 3 == 0 ? 3 : 24;
    Cartouche map = new Cartouche();
    naive = new NaiveMap();
    List<Method> face = face();
    for (int call = 1; call <= CALLS; call++) {
      Method method = face.get(below(face.size()));
      if (tooDear(method.getName())) {
        continue;
      }
      Object[] numbersOfCall = parameters(method);
      Object got = answer(method, map, numbersOfCall);
      Object want = answer(NaiveMap.class.getMethod(method.getName(), method.getParameterTypes()), naive,
          numbersOfCall);
      if (method.getName().startsWith("add") && want instanceof Integer && !method.getName().equals("addVertex")) {
        numbers++;
      }
      check.due("run " + run + ", call " + call + ": " + method.getName() + Arrays.toString(numbersOfCall),
          got, want);
    }
  }

  /** The methods, some of them more than once, so that these are called more often. */
  private static List<Method> face() {
    List<Method> face = new ArrayList<>();
    for (Method method : Cartouche.class.getDeclaredMethods()) {
      if (Modifier.isPublic(method.getModifiers())) {
        face.add(method);
      }
    }
    face.sort(Comparator.comparing(Method::getName));
    List<Method> often = new ArrayList<>(face);
    for (Method method : face) {
      if (method.getName().matches("addVertex|namesIn|nameIn|nameAt|drawn|place|seenFrom|nameFrom")) {
        often.add(method);
        often.add(method);
      }
    }
    return often;
  }

  /** The naive program is slow in these, so that they are called less often. */
  private boolean tooDear(String name) {
    if (name.equals("leastCost") || name.equals("place")) {
      return !rarely(2);
    }
    if (name.equals("improve")) {
      return !rarely(4);
    }
    if (name.equals("remove")) {
      return !rarely(numbers > freeFeatures ? 1 : 6);
    }
    return name.startsWith("add") && !name.equals("addVertex") && numbers > freeFeatures && !rarely(12);
  }

  private static Object answer(Method method, Object map, Object[] numbersOfCall) throws Exception {
    try {
      return method.invoke(map, numbersOfCall);
    } catch (InvocationTargetException e) {
      return "throws." + e.getCause().getClass().getSimpleName();
    }
  }

  private int within(int least, int most) {
    if (rarely(60)) {
      int[] odd = {least - 1, most + 1, Integer.MIN_VALUE, Integer.MAX_VALUE, -1};
      return odd[below(odd.length)];
    }
    return least + below(most - least + 1);
  }

  private int spot() {
    return rarely(10) ? within(0, 999) : within(0, grid - 1) + (rarely(200) ? 1000 - grid : 0);
  }

  private int feature() {
    List<Integer> there = naive.numbersThere();
    if (there.isEmpty() || rarely(8)) {
      return within(0, Math.max(0, numbers - 1));
    }
    return there.get(below(there.size()));
  }

  /** A place of a name that is seen, or next to it, or else any place. */
  private int[] aim(int zoom) {
    int feature = feature();
    int size = 125 << Math.max(0, Math.min(5, zoom));
    try {
      int left = naive.left(feature, zoom);
      int width = naive.widthOf(feature);
      int x = rarely(2) ? left + below(width) : left + new int[] {-1, 0, width - 1, width}[below(4)];
      return new int[] {x, naive.top(feature, zoom) + new int[] {-1, 0, 5, 9, 10, 19, 20}[below(7)]};
    } catch (RuntimeException e) {
      return new int[] {within(0, size - 1), within(0, size - 1)};
    }
  }

  /** A tile where a name is seen, or next to it, or that which was asked before. */
  private Object[] tile(int zoom) {
    if (!rarely(3)) {
      int[] aim = aim(zoom);
      int step = rarely(3) ? within(-1, 1) : 0;
      lastTile = new Object[] {zoom, aim[0] / 64 + step, aim[1] / 64};
    }
    return lastTile;
  }

  private int squareThere() {
    List<Integer> there = naive.numbersThere();
    return there.isEmpty() ? 0 : naive.square(there.get(below(there.size())));
  }

  private int zoom() {
    return within(0, 5);
  }

  private Object[] parameters(Method method) {
    int letters = within(1, rarely(2) ? 20 : 6);
    int shorter = within(1, Math.max(1, Math.min(20, letters)));
    int zoom = zoom();
    switch (method.getName()) {
      case "addPoint":
        return new Object[] {spot(), spot(), within(0, 9), within(0, 8), letters, shorter};
      case "addLine":
        return new Object[] {spot(), spot(), within(0, 9), letters, shorter};
      case "addArea":
        return new Object[] {spot(), spot(), spot(), spot(), within(0, 9), letters, shorter};
      case "addVertex":
        return new Object[] {feature(), spot(), spot()};
      case "setWish":
        return new Object[] {feature(), within(0, 9)};
      case "shift":
        return new Object[] {feature(), within(-20, 20), within(-20, 20)};
      case "turn":
        return new Object[] {rarely(2) ? 0 : within(0, 3)};
      case "lock":
        return new Object[] {feature(), rarely(2)};
      case "improve":
        return new Object[] {within(1, rarely(2) ? 500 : 40)};
      case "choose":
        return new Object[] {feature(), within(-1, rarely(2) ? 3 : 15)};
      case "left":
      case "top":
        return new Object[] {feature(), zoom};
      case "nameAt":
        int[] aim = aim(zoom);
        return new Object[] {aim[0], aim[1], zoom};
      case "namesIn":
        return tile(zoom);
      case "nameIn":
        Object[] tile = tile(zoom);
        return new Object[] {tile[0], tile[1], tile[2], within(0, 2)};
      case "indexed":
        return new Object[] {rarely(3) ? within(0, 63) : squareThere(), within(0, 2)};
      case "namedShare":
        return new Object[] {zoom};
      default:
        return method.getParameterCount() == 0 ? new Object[0] : new Object[] {feature()};
    }
  }
}
