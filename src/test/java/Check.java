import java.util.List;

/** What all tests use: named tests, answers that are due, and calls that must be refused. */
final class Check {
  interface Body {
    void run();
  }

  interface Call {
    Object run();
  }

  private static int passed = 0;
  private static int failed = 0;
  private static int wrong = 0;
  private static String running = "";

  private Check() {}

  /** Runs one test; it passes if no answer in it is wrong and nothing unexpected is thrown. */
  static void test(String name, Body body) {
    running = name;
    wrong = 0;
    try {
      body.run();
    } catch (RuntimeException e) {
      fail("threw " + e);
    }
    if (wrong == 0) {
      passed++;
    } else {
      failed++;
    }
  }

  static void due(Object due, Object got) {
    if (!due.equals(got)) {
      fail("answered " + got + ", due is " + due + at());
    }
  }

  /** The call must throw exactly this exception and change nothing that can be asked for. */
  static void refused(Smartcrate crate, Class<? extends RuntimeException> type, Call call) {
    String before = Answers.of(crate);
    thrown(type, call);
    if (!before.equals(Answers.of(crate))) {
      fail("changed something and threw" + at());
    }
  }

  /** Tells whether the call throws exactly this exception, as it must. */
  static boolean thrown(Class<? extends RuntimeException> type, Call call) {
    try {
      fail("answered " + call.run() + ", due is " + type.getSimpleName() + at());
      return false;
    } catch (RuntimeException e) {
      if (e.getClass() != type) {
        fail("threw " + e + ", due is " + type.getSimpleName() + at());
      }
      return e.getClass() == type;
    }
  }

  /** What is told behind a refused call must be what was told ahead of it. */
  static void sameLines(List<String> ahead, List<String> behind) {
    for (int i = 0; i < ahead.size(); i++) {
      if (!ahead.get(i).equals(behind.get(i))) {
        fail("changed something: " + ahead.get(i) + " became " + behind.get(i) + at());
        return;
      }
    }
  }

  static void fail(String what) {
    wrong++;
    System.out.println(running + ": " + what);
  }

  /** Prints the closing line; returns whether all tests passed. */
  static boolean close() {
    System.out.println(passed + " passed, " + failed + " failed");
    return failed == 0 && passed > 0;
  }

  /** The line of the test that asks, so that a wrong answer can be found. */
  static String at() {
    for (StackTraceElement frame : new Throwable().getStackTrace()) {
      String in = frame.getClassName();
      if (!in.equals("Check") && !in.startsWith("Scene")) {
        return " at " + frame.getFileName() + ":" + frame.getLineNumber();
      }
    }
    return "";
  }
}
