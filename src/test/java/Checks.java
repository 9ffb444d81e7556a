import java.util.concurrent.Callable;

/** What the tests share: counts the answers, prints those that are not due, and ends the run. */
final class Checks {
  private int right = 0;
  private int wrong = 0;
  private String about = "";

  void about(String what) {
    about = what;
  }

  void due(String call, Object got, Object want) {
    if (got.equals(want)) {
      right++;
      return;
    }
    wrong++;
    System.out.println(about + ": " + call + " answered " + got + ", due is " + want);
  }

  void dueThrow(String call, Class<? extends Exception> want, Callable<?> body) {
    due(call, outcome(body), "throws." + want.getSimpleName());
  }

  /** The answer of a call as a text, or the name of what it throws behind "throws.". */
  static String outcome(Callable<?> body) {
    try {
      return String.valueOf(body.call());
    } catch (Exception e) {
      return "throws." + e.getClass().getSimpleName();
    }
  }

  int counted() {
    return right + wrong;
  }

  int wrong() {
    return wrong;
  }

  void end() {
    System.out.println(right + " answers are as due, " + wrong + " are not");
    if (wrong != 0 || right == 0) {
      System.exit(1);
    }
  }
}
