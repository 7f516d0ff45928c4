@Says("Promise 1: A new object")
final class Promise01NewObject {
  private Promise01NewObject() {}

  @Says("No program,")
  static void noProgram() {
    Check.same("instructions", 0, new Subject().look(5));
    Check.same("rewrite", 0, new Subject().rewrite());
    Check.bounds("rewritten", () -> new Subject().rewritten(0, 0));
    Check.state("start plain", () -> new Subject().start(false, 0, 0));
    Check.state("start checked", () -> new Subject().start(true, 0, 0));
    Check.same("the first instruction's number", 0, new Subject().code(14, 0, 0, 0, 0));
  }

  @Says("no run.")
  static void noRun() {
    Subject x = new Subject();
    for (int what = 0; what <= 4; what++) {
      Check.same("look " + what, 0, x.look(what));
    }
    for (int r = 0; r < 8; r++) {
      Check.same("register " + r, 0, x.register(r));
    }
    Check.bounds("printed", () -> x.printed(0));
    Check.state("report", () -> x.report(0));
    Check.state("step", () -> x.step(1));
  }

  @Says("No program, no run.")
  static void oneObjectKnowsNothingOfAnother() {
    Subject first = Scenario.checked("a8 p8 f8 f8");
    Subject second = new Subject();
    Check.same("instructions", 0, second.look(5));
    Check.same("run", 0, second.look(0));
    Check.same("byte", 0, second.heap(8));
    Check.same("shadow", "", Seen.shadow(second));
    Scenario.write(second, "a40");
    second.run(false, 0, 0);
    Check.same("the first one's report", "4 8 8", Seen.report(first));
    Check.same("the first one's shadow", "-1 -2 -1", Seen.shadow(first));
  }
}
