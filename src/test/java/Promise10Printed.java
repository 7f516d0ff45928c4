@Says("Promise 10: printed")
final class Promise10Printed {
  private Promise10Printed() {}

  @Says("What was printed, number i.")
  static void whatWasPrinted() {
    Subject x = new Subject().print(0).print(1).print(2).print(0);
    x.run(true, Integer.MIN_VALUE, Integer.MAX_VALUE);
    Check.same("all", Integer.MIN_VALUE + " " + Integer.MAX_VALUE + " 0 " + Integer.MIN_VALUE, Seen.printed(x));
    x.start(false, 5, 6);
    x.step(1);
    Check.same("of the new run", "5", Seen.printed(x));
    Check.same("when reported", 8, Scenario.checked("a8 g7").printed(0));
    Check.same("when crashed", 8, Scenario.plain("a8 f7").printed(0));
  }

  @Says("What was printed, number i.")
  static void the60thIsKept() {
    Subject x = TermsProgram.printing();
    x.start(false, 1000, 0);
    x.step(999);
    Check.same("first", 1000, x.printed(0));
    Check.same("60th", 1000 - 59 * 3, x.printed(59));
  }

  @Says("IndexOutOfBoundsException: none, or there is no run.")
  static void none() {
    Subject x = new Subject().print(0).print(0);
    x.start(true, 5, 0);
    Check.bounds("none yet", () -> x.printed(0));
    x.step(1);
    Check.same("one", 5, x.printed(0));
    Check.bounds("one, number 1", () -> x.printed(1));
    for (int i : new int[] {-1, 2, 60, Integer.MIN_VALUE, Integer.MAX_VALUE}) {
      Check.bounds("number " + i, () -> x.printed(i));
    }
    Subject many = TermsProgram.printing();
    many.start(false, 0, 0);
    many.step(59 * 3);
    Check.bounds("the 60th before it was printed", () -> many.printed(59));
    many.step(1);
    Check.same("the 60th", -3 * 59, many.printed(59));
    many.step(300);
    Check.bounds("the 61st is lost", () -> many.printed(60));
  }

  @Says("IndexOutOfBoundsException: none, or there is no run.")
  static void thereIsNoRun() {
    Check.bounds("new", () -> new Subject().printed(0));
    Subject coded = Scenario.plain("a8").halt();
    Check.bounds("behind code", () -> coded.printed(0));
    Subject cleared = Scenario.plain("a8");
    cleared.clear();
    Check.bounds("behind clear", () -> cleared.printed(0));
    Subject again = Scenario.plain("a8");
    again.start(true, 0, 0);
    Check.bounds("a new run", () -> again.printed(0));
  }
}
