@Says("Promise 4: rewrite")
final class Promise04Rewrite {
  private Promise04Rewrite() {}

  @Says("How many instructions and checks the rewritten program has;")
  static void howManyInstructionsAndChecks() {
    Check.same("no program", 0, new Subject().rewrite());
    for (int operation = 0; operation <= 14; operation++) {
      boolean checked = operation >= 5 && operation <= 9;
      Check.same("of " + operation, checked ? 2 : 1, new Subject().with(operation, 0, 0, 0, 0).rewrite());
    }
    Subject x = new Subject();
    int due = 0;
    for (int i = 0; i < 40; i++) {
      x.code(i % 15, 0, 0, 0, 0);
      due += i % 15 >= 5 && i % 15 <= 9 ? 2 : 1;
      Check.same("lines", due, x.rewrite());
    }
  }

  @Says("How many instructions and checks the rewritten program has;")
  static void rewriteLeavesTheRunAlone() {
    Check.same("a run", Seen.everything(Promise04Rewrite::inTheMiddle), Seen.everything(() -> {
      Subject x = inTheMiddle();
      Check.same("lines", 12, x.rewrite());
      return x;
    }));
    Subject x = inTheMiddle();
    x.rewrite();
    Check.same("it goes on", 4, x.step(100));
  }

  private static Subject inTheMiddle() {
    Subject x = new Subject();
    Scenario.write(x, "a8 p8 f8 a8");
    x.start(true, 4, 5);
    Check.same("steps", 8, x.step(8));
    return x;
  }

  @Says("IllegalStateException: an instruction goes on at one that is not there.")
  static void goesOnAtOneThatIsNotThere() {
    for (int operation : new int[] {10, 11}) {
      for (int k : new int[] {-1, 2, 3, 40, Integer.MIN_VALUE, Integer.MAX_VALUE}) {
        Check.state("first, on at " + k, () -> new Subject().with(operation, 0, 0, 0, k).halt().rewrite());
        Check.state("last, on at " + k, () -> new Subject().halt().with(operation, 0, 0, 0, k).rewrite());
      }
      for (int k : new int[] {0, 1}) {
        Check.same("first, on at " + k, 2, new Subject().with(operation, 0, 0, 0, k).halt().rewrite());
        Check.same("last, on at " + k, 2, new Subject().halt().with(operation, 0, 0, 0, k).rewrite());
      }
    }
  }

  @Says("IllegalStateException: an instruction goes on at one that is not there.")
  static void theNumberIsThatOfAnInstructionNotOfALine() {
    // Four lines, but no instruction 2.
    Subject x = new Subject().free(0).free(0);
    Check.same("lines", 4, x.rewrite());
    Check.state("on at 3", () -> x.goIfZero(0, 3).rewrite());
    Check.same("once it is there", 6, x.halt().rewrite());
  }

  @Says("IllegalStateException: an instruction goes on at one that is not there.")
  static void onlyThoseThatGoOnMatter() {
    for (int operation = 0; operation <= 14; operation++) {
      if (operation != 10 && operation != 11) {
        Check.holds("of " + operation, new Subject().with(operation, 0, 0, 0, 77).rewrite() > 0);
        Check.holds("of " + operation, new Subject().with(operation, 0, 0, 0, -1).rewrite() > 0);
      }
    }
  }

  @Says("IllegalStateException: an instruction goes on at one that is not there.")
  static void itMayBeThereLater() {
    Subject x = new Subject().goIfZero(0, 2);
    Check.state("none", x::rewrite);
    x.halt();
    Check.state("one", x::rewrite);
    x.halt();
    Check.same("two", 3, x.rewrite());
    x.clear();
    Check.same("cleared", 0, x.rewrite());
    x.goIfLess(0, 0, 1);
    Check.state("the old ones are there no more", x::rewrite);
    Subject last = new Subject().goIfZero(0, 39);
    for (int i = 1; i < 40; i++) {
      Check.state("39 is not there yet", last::rewrite);
      last.halt();
    }
    Check.same("39 is there", 40, last.rewrite());
  }
}
