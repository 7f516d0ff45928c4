/** Compares answers with those that are due and ends a test with exit code 1 if one was wrong. */
final class Check {
  private static final int MOST_SHOWN_OF_A_TEST = 3;
  private static final int MOST_SECONDS = 120;
  private static volatile String test = "";
  private static int wrongInTest = 0;
  private static int done = 0;
  private static int wrong = 0;

  static {
    watch();
  }

  private Check() {}

  /** A call that does not end is wrong too, and must not keep the tests from ending. */
  private static void watch() {
    Thread watcher = new Thread(() -> {
      try {
        Thread.sleep(1000L * MOST_SECONDS);
      } catch (InterruptedException e) {
        return;
      }
      System.out.println("  " + test + "has not ended after " + MOST_SECONDS + " seconds");
      Runtime.getRuntime().halt(1);
    });
    watcher.setDaemon(true);
    watcher.start();
  }

  interface Call {
    void run();
  }

  /** Names the test that the checks which follow belong to. */
  static void begin(String name) {
    test = name + ": ";
    wrongInTest = 0;
  }

  static void same(String what, long due, long got) {
    done++;
    if (due != got) {
      note(what + " answered " + got + ", due is " + due);
    }
  }

  static void same(String what, String due, String got) {
    done++;
    if (!due.equals(got)) {
      note(what + " answered " + got + ", due is " + due);
    }
  }

  static void holds(String what, boolean got) {
    done++;
    if (!got) {
      note(what + " does not hold");
    }
  }

  static void state(String what, Call call) {
    throwing(what, IllegalStateException.class, call);
  }

  static void argument(String what, Call call) {
    throwing(what, IllegalArgumentException.class, call);
  }

  static void bounds(String what, Call call) {
    throwing(what, IndexOutOfBoundsException.class, call);
  }

  /** The very class is asked for: an ArrayIndexOutOfBoundsException is not one that was thrown on purpose. */
  private static void throwing(String what, Class<? extends RuntimeException> due, Call call) {
    done++;
    try {
      call.run();
    } catch (RuntimeException e) {
      if (e.getClass() != due) {
        note(what + " threw " + e.getClass().getName() + ", due is " + due.getName());
      }
      return;
    }
    note(what + " threw nothing, due is " + due.getName());
  }

  static void note(String text) {
    wrong++;
    wrongInTest++;
    if (wrongInTest <= MOST_SHOWN_OF_A_TEST) {
      System.out.println("  " + test + text);
    }
  }

  static boolean anyWrong() {
    return wrong > 0;
  }

  static void end() {
    System.out.println("  " + done + " checks, " + wrong + " wrong");
    if (wrong > 0) {
      System.exit(1);
    }
  }
}
