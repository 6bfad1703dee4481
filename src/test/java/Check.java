import java.util.concurrent.Callable;

/** Counts and tells the answers that are not the ones that are due. */
final class Check {
  private int asked;
  private int wrong;

  void due(String what, Object got, Object want) {
    asked++;
    if (!want.equals(got)) {
      wrong++;
      System.out.println(what + " answered " + got + ", due is " + want);
    }
  }

  /** The call throws exactly that exception. */
  void dueThrow(String what, Callable<?> call, Class<? extends Exception> want) {
    due(what, answer(call), "throws." + want.getSimpleName());
  }

  static Object answer(Callable<?> call) {
    try {
      return call.call();
    } catch (Exception e) {
      return "throws." + e.getClass().getSimpleName();
    }
  }

  void end(String name) {
    System.out.println(name + ": " + asked + " answers, " + wrong + " wrong");
    if (wrong != 0) {
      System.exit(1);
    }
  }
}
