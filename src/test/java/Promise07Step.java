@Says("Promise 7: step")
final class Promise07Step {
  private Promise07Step() {}

  private static Subject endless() {
    Subject x = new Subject().addNumber(2, 2, 1).goIfZero(7, 0);
    x.start(false, 0, 0);
    return x;
  }

  @Says("Up to n steps: how many were done, the last one included.")
  static void asManyAsAskedForWhileItGoesOn() {
    for (int n : new int[] {0, 1, 2, 3, 10, 999, 1000}) {
      Subject x = endless();
      Check.same("done", n, x.step(n));
      Check.same("register", (n + 1) / 2, x.register(2));
      Check.same("where", n % 2, x.look(1));
      Check.same("goes on", 1, x.look(0));
      Check.same("done again", n, x.step(n));
      Check.same("register", n, x.register(2));
    }
  }

  @Says("Up to n steps: how many were done, the last one included.")
  static void theOneThatEndsTheRunCounts() {
    Subject halt = new Subject().set(2, 1).halt().set(2, 2);
    halt.start(true, 0, 0);
    Check.same("halt", 2, halt.step(1000));
    Check.same("over: none", 0, halt.step(1000));
    Subject behind = new Subject().set(2, 1).set(2, 2);
    behind.start(true, 0, 0);
    Check.same("behind the last", 2, behind.step(1000));
    Check.same("over: none", 0, behind.step(1));
    Subject reported = new Subject().set(2, 1).loadByte(2, 0, 0).set(2, 2);
    reported.start(true, 0, 0);
    Check.same("a check that fails", 2, reported.step(1000));
    Check.same("reported: none", 0, reported.step(1000));
    Subject crashed = new Subject().set(2, 1).loadByte(2, 0, -1).set(2, 2);
    crashed.start(false, 0, 0);
    Check.same("a crash", 2, crashed.step(1000));
    Check.same("crashed: none", 0, crashed.step(1000));
  }

  @Says("Up to n steps: how many were done, the last one included.")
  static void noStepsChangeNothing() {
    String before = Seen.everything(Promise07Step::endless);
    Check.same("step(0)", before, Seen.everything(() -> {
      Subject x = endless();
      Check.same("none", 0, x.step(0));
      return x;
    }));
  }

  @Says("IllegalStateException: there is no run;")
  static void thereIsNoRun() {
    Check.state("new", () -> new Subject().step(1));
    Check.state("not started", () -> new Subject().halt().step(1));
    Check.state("not started, none asked for", () -> new Subject().halt().step(0));
    Check.state("behind code", () -> endless().halt().step(1));
    Subject x = endless();
    x.clear();
    Check.state("behind clear", () -> x.step(1));
    Check.same("a run that is over is a run", 0, Scenario.plain("a8").step(1));
    Check.same("a run that is reported is a run", 0, Scenario.checked("g8").step(1));
    Check.same("a run that has crashed is a run", 0, Scenario.plain("f8").step(1));
  }

  @Says("IllegalArgumentException: n is not 0 .. 1000.")
  static void nIsNot0To1000() {
    for (int n : new int[] {-1, 1001, -1000, Integer.MIN_VALUE, Integer.MAX_VALUE}) {
      Subject x = endless();
      Check.argument("n " + n, () -> x.step(n));
      Check.same("nothing done", 0, x.register(2));
      Check.argument("over, n " + n, () -> Scenario.plain("a8").step(n));
      Check.argument("reported, n " + n, () -> Scenario.checked("g8").step(n));
      Check.argument("crashed, n " + n, () -> Scenario.plain("f8").step(n));
    }
    Check.same("n 0", 0, endless().step(0));
    Check.same("n 1000", 1000, endless().step(1000));
  }
}
