/** Compares answers with those that are due and ends a test with exit code 1 if one was wrong. */
final class Check {
  private static int done = 0;
  private static int wrong = 0;

  private Check() {}

  interface Call {
    void run();
  }

  static void same(String what, long due, long got) {
    done++;
    if (due != got) {
      note(what + " answered " + got + ", due is " + due);
    }
  }

  static void same(String what, String due, String got) {
    done++;
    if (!due.equals(got)) {
      note(what + " answered " + got + ", due is " + due);
    }
  }

  /** The very class is asked for: an ArrayIndexOutOfBoundsException is not one that was thrown on purpose. */
  static void throwing(String what, Class<? extends RuntimeException> due, Call call) {
    done++;
    try {
      call.run();
    } catch (RuntimeException e) {
      if (e.getClass() != due) {
        note(what + " threw " + e.getClass().getName() + ", due is " + due.getName());
      }
      return;
    }
    note(what + " threw nothing, due is " + due.getName());
  }

  static void state(String what, String condition, Call call) {
    throwing(what + " (" + condition + ")", IllegalStateException.class, call);
  }

  static void argument(String what, String condition, Call call) {
    throwing(what + " (" + condition + ")", IllegalArgumentException.class, call);
  }

  static void bounds(String what, String condition, Call call) {
    throwing(what + " (" + condition + ")", IndexOutOfBoundsException.class, call);
  }

  static void note(String text) {
    wrong++;
    if (wrong <= 40) {
      System.out.println("  " + text);
    }
  }

  static boolean anyWrong() {
    return wrong > 0;
  }

  static void end() {
    System.out.println("  " + done + " checks, " + wrong + " wrong");
    if (wrong > 0) {
      System.exit(1);
    }
  }
}
