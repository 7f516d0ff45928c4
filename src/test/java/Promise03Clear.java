@Says("Promise 3: clear")
final class Promise03Clear {
  private Promise03Clear() {}

  @Says("No instructions;")
  static void noInstructions() {
    Subject x = new Subject().free(0).goIfZero(0, 7);
    x.clear();
    Check.same("instructions", 0, x.look(5));
    Check.same("rewrite", 0, x.rewrite());
    Check.bounds("rewritten", () -> x.rewritten(0, 0));
    Check.state("start", () -> x.start(false, 0, 0));
    Check.same("number", 0, x.code(0, 2, 0, 0, 9));
    Check.same("instructions", 1, x.look(5));
    Check.same("the new one alone", "0/0/9", Seen.rewritten(x));
  }

  @Says("No instructions;")
  static void clearOfNothing() {
    Subject x = new Subject();
    x.clear();
    x.clear();
    Check.same("instructions", 0, x.look(5));
    Check.same("run", 0, x.look(0));
  }

  @Says("there is no run then.")
  static void thereIsNoRunThen() {
    Subject going = new Subject().print(0).print(0);
    going.start(true, 5, 0);
    going.step(1);
    for (Subject x : new Subject[] {
      going, Scenario.plain("a8"), Scenario.checked("a8 a8 f8 g7"), Scenario.plain("a8 a8 f8 f1")
    }) {
      Check.holds("there is a run before", x.look(0) != 0);
      x.clear();
      for (int what = 0; what <= 5; what++) {
        Check.same("look " + what, 0, x.look(what));
      }
      Check.state("step", () -> x.step(1));
      Check.bounds("printed", () -> x.printed(0));
      Check.state("report", () -> x.report(0));
    }
  }
}
