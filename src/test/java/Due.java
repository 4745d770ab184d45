/** Compares answers with what is due, prints those that differ, and ends the test. */
final class Due {
  interface Call {
    Object run();
  }

  private static int asked = 0;
  private static int wrong = 0;

  private Due() {}

  /** What a call answers: a number, "done", or the simple name of what it throws. */
  static Object answer(Call call) {
    try {
      return call.run();
    } catch (RuntimeException e) {
      return e.getClass().getSimpleName();
    }
  }

  static void is(String what, Object want, Call call) {
    same(what, want, answer(call));
  }

  static void same(String what, Object want, Object got) {
    asked++;
    if (!want.equals(got)) {
      wrong++;
      System.out.println(what + ": answered " + got + ", due is " + want);
    }
  }

  static boolean allRight() {
    return wrong == 0;
  }

  static void finish() {
    System.out.println(asked + " answers, " + wrong + " of them not as due");
    if (wrong != 0 || asked == 0) {
      System.exit(1);
    }
  }
}
