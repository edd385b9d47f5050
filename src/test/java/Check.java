/** What all tests use: named tests, answers that are due, and calls that must be refused. */
final class Check {
  interface Body {
    void run();
  }

  interface Call {
    Object run();
  }

  private static int passed = 0;
  private static int failed = 0;
  private static int wrong = 0;
  private static String running = "";

  private Check() {}

  /** Runs one test; it passes if no answer in it is wrong and nothing unexpected is thrown. */
  static void test(String name, Body body) {
    running = name;
    wrong = 0;
    try {
      body.run();
    } catch (RuntimeException e) {
      fail("threw " + e);
    }
    if (wrong == 0) {
      passed++;
    } else {
      failed++;
    }
  }

  static void due(Object due, Object got) {
    if (!due.equals(got)) {
      fail("answered " + got + ", due is " + due + at());
    }
  }

  /** The call must throw exactly this exception and change nothing that can be asked for. */
  static void refused(Smartcrate crate, Class<? extends RuntimeException> type, Call call) {
    String before = Answers.of(crate);
    try {
      fail("answered " + call.run() + ", due is " + type.getSimpleName() + at());
    } catch (RuntimeException e) {
      if (e.getClass() != type) {
        fail("threw " + e + ", due is " + type.getSimpleName() + at());
      }
    }
    if (!before.equals(Answers.of(crate))) {
      fail("changed something and threw" + at());
    }
  }

  static void fail(String what) {
    wrong++;
    System.out.println(running + ": " + what);
  }

  /** Prints the closing line; returns whether all tests passed. */
  static boolean close() {
    System.out.println(passed + " passed, " + failed + " failed");
    return failed == 0 && passed > 0;
  }

  /** The line of the test that asks, so that a wrong answer can be found. */
  private static String at() {
    for (StackTraceElement frame : new Throwable().getStackTrace()) {
      if (!frame.getClassName().equals("Check")) {
        return " at " + frame.getFileName() + ":" + frame.getLineNumber();
      }
    }
    return "";
  }
}
