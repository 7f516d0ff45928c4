@Says("Promise 13: report")
final class Promise13Report {
  private Promise13Report() {}

  @Says("Of the report: what 0 its kind, 1 its address, 2 its instruction.")
  static void kindAddressInstruction() {
    Subject x = Scenario.checked("a13 g8 p21");
    Check.same("kind", 1, x.report(0));
    Check.same("address", 21, x.report(1));
    Check.same("instruction", 6, x.report(2));
    x.step(10);
    Check.same("behind a step that does nothing", "1 21 6", Seen.report(x));
    Subject both = new Subject().loadByte(2, 0, 0).free(0);
    Check.same("the first run's", "5 -7 0", Seen.report(both.run(true, -7, 0)));
    Check.same("the second run's", "3 9 0", Seen.report(both.run(true, 9, 0)));
  }

  @Says("IllegalStateException: there is none;")
  static void thereIsNone() {
    for (int what = 0; what <= 2; what++) {
      int w = what;
      Check.state("new", () -> new Subject().report(w));
      Check.state("over", () -> Scenario.checked("a8").report(w));
      Check.state("crashed", () -> Scenario.plain("f8").report(w));
      Subject going = Scenario.checked("a8 g7");
      going.start(true, 0, 0);
      Check.state("a new run", () -> going.report(w));
      going.step(4);
      Check.state("just before", () -> going.report(w));
      Check.state("behind code", () -> Scenario.checked("g7").halt().report(w));
      Subject cleared = Scenario.checked("g7");
      cleared.clear();
      Check.state("behind clear", () -> cleared.report(w));
    }
  }

  @Says("IllegalArgumentException: another what.")
  static void anotherWhat() {
    for (int what : new int[] {-1, 3, 4, Integer.MIN_VALUE, Integer.MAX_VALUE}) {
      Check.argument("what " + what, () -> Scenario.checked("g7").report(what));
      Check.argument("what " + what, () -> Scenario.checked("f7").report(what));
    }
  }
}
