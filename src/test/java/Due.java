/** Compares answers with what is due, prints those that differ, and ends the test. */
final class Due {
  static final String NO_NODE = "NoSuchElementException";
  static final String ARGUMENT = "IllegalArgumentException";
  static final String STATE = "IllegalStateException";
  static final String INDEX = "IndexOutOfBoundsException";
  static final String FULL = "UnsupportedOperationException";

  interface Call {
    Object run();
  }

  private static int tests = 0;
  private static int asked = 0;
  private static int wrong = 0;
  private static String now = "";

  private Due() {}

  /** A test of its own: its name stands before what it finds. */
  static void test(String name, Runnable body) {
    tests++;
    now = name + ": ";
    int before = asked;
    try {
      body.run();
    } catch (RuntimeException e) {
      same("ends", "by itself", e.toString());
    }
    same("asks something", true, asked > before);
    now = "";
  }

  /** What a call answers: a number, "done", or the simple name of what it throws. */
  static Object answer(Call call) {
    try {
      return call.run();
    } catch (RuntimeException e) {
      return e.getClass().getSimpleName();
    }
  }

  static Call quiet(Runnable call) {
    return () -> {
      call.run();
      return "done";
    };
  }

  static void is(String what, Object want, Call call) {
    same(what, want, answer(call));
  }

  static void done(String what, Runnable call) {
    is(what, "done", quiet(call));
  }

  static void ends(String what, String want, Runnable call) {
    is(what, want, quiet(call));
  }

  static void same(String what, Object want, Object got) {
    asked++;
    if (!want.equals(got)) {
      wrong++;
      System.out.println(now + what + ": answered " + got + ", due is " + want);
    }
  }

  static boolean allRight() {
    return wrong == 0;
  }

  static void finish() {
    String of = tests == 0 ? "" : tests + " tests, ";
    System.out.println(of + asked + " answers, " + wrong + " of them not as due");
    if (wrong != 0 || asked == 0) {
      System.exit(1);
    }
  }
}
