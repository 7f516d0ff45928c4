/** The rewritten program. */
@Says("Terms")
final class TermsRewritten {
  private TermsRewritten() {}

  @Says("REWRITTEN it has, in the same order,")
  static void inTheSameOrder() {
    Subject x = new Subject();
    StringBuilder due = new StringBuilder();
    for (int i = 0; i < 30; i++) {
      int operation = i * 7 % 15;
      x.code(operation, 0, 0, 0, 0);
      due.append(operation == 5 ? "16/" + i + " " : operation >= 6 && operation <= 9 ? "15/" + i + " " : "");
      due.append(operation).append('/').append(i).append(' ');
    }
    StringBuilder seen = new StringBuilder();
    int size = x.rewrite();
    for (int i = 0; i < size; i++) {
      seen.append(x.rewritten(i, 0)).append('/').append(x.rewritten(i, 1)).append(' ');
    }
    Check.same("operations and instructions", due.toString(), seen.toString());
  }

  @Says("ahead of each 6, 7, 8, 9 a CHECK of its 1 or 4 bytes at a + k (r, b as there),")
  static void aCheckOfOneOrFourBytes() {
    for (int operation = 6; operation <= 9; operation++) {
      Check.same("check ahead of " + operation, "15/0/8 " + operation + "/0/8",
          Seen.rewritten(new Subject().with(operation, 1, 2, 3, 8)));
      int width = operation == 6 || operation == 8 ? 1 : 4;
      for (int k = -9; k < 20; k++) {
        // A block of 8 bytes at 8; register 3 lies two behind its beginning.
        Subject x = new Subject().set(2, 8).allocate(3, 2).addNumber(3, 3, 2).with(operation, 4, 3, 5, k);
        x.run(true, 0, 0);
        boolean inside = k >= -2 && k + 2 + width <= 8;
        Check.same("operation " + operation + " at " + (10 + k), inside ? 2 : 3, x.look(0));
      }
    }
  }

  @Says("ahead of each 6, 7, 8, 9 a CHECK of its 1 or 4 bytes at a + k (r, b as there),")
  static void theCheckItselfTouchesNothing() {
    Subject x = new Subject().set(2, 8).allocate(3, 2).storeInt(3, 0, 0).loadInt(4, 3, 0);
    x.start(true, 77, 0);
    Check.same("up to the check", 3, x.step(3));
    Check.same("nothing stored", 0, x.heap(8));
    Check.same("at the store", 3, x.look(1));
    x.step(2);
    Check.same("stored", 77, x.heap(8));
    Check.same("nothing loaded", 0, x.register(4));
    x.step(1);
    Check.same("loaded", 77, x.register(4));
  }

  @Says("and ahead of each 5 a check that what is freed is 0 or the address of a block not in quarantine;")
  static void aCheckOfWhatIsFreed() {
    Check.same("check ahead of 5", "16/0 5/0", operations(new Subject().free(2)));
    Scenario.dueOver("f0");
    Scenario.dueOver("a8 f8");
    Scenario.dueOver("a8 f0 f8 f0");
    Scenario.dueReport("a8 f8 f8", "4 8 6");
    Scenario.dueReport("a8 f16", "4 16 4");
    Scenario.dueReport("f8", "4 8 1");
    Subject x = new Subject().set(2, 8).allocate(3, 2).free(3);
    x.start(true, 0, 0);
    x.step(3);
    Check.same("the check frees nothing", 1, x.look(3));
    x.step(1);
    Check.same("freed", 0, x.look(3));
  }

  private static String operations(Subject x) {
    StringBuilder all = new StringBuilder();
    int size = x.rewrite();
    for (int i = 0; i < size; i++) {
      all.append(i == 0 ? "" : " ").append(x.rewritten(i, 0)).append('/').append(x.rewritten(i, 1));
    }
    return all.toString();
  }

  @Says("those that go on at k go on at the first instruction that stands for instruction k"
      + " (the check, if it has one).")
  static void goingOnAtTheCheckIfThereIsOne() {
    Subject x = new Subject().with(10, 0, 0, 0, 3).loadByte(1, 2, -7).set(1, 77).storeInt(2, 1000, 3);
    x.addNumber(1, 2, 5).goIfLess(1, 2, 1).goIfZero(0, 2).loadInt(0, 0, 1).goIfLess(0, 0, 8);
    x.storeByte(0, 2, 0).set(3, 4).goIfZero(0, 9).goIfZero(0, 12).goIfZero(0, 0);
    Check.same("the rewritten program",
        "10/0/4 15/1/-7 6/1/-7 0/2/77 15/3/1000 9/3/1000 13/4/5 11/5/1 10/6/3"
            + " 15/7/1 7/7/1 11/8/11 15/9/2 8/9/2 0/10/4 10/11/12 10/12/16 10/13/0",
        Seen.rewritten(x));
  }

  @Says("those that go on at k go on at the first instruction that stands for instruction k"
      + " (the check, if it has one).")
  static void whatIsGoneOnAtIsCheckedToo() {
    Subject load = new Subject().goIfZero(2, 2).halt().loadByte(3, 0, 0);
    load.start(true, 0, 0);
    load.step(1);
    Check.same("on at the check of the load", 2, load.look(1));
    Check.same("the check", 1, load.step(9));
    Check.same("report", "3 0 2", Seen.report(load));
    Subject free = new Subject().free(2).goIfLess(2, 0, 3).halt().free(0);
    free.run(true, 5, 0);
    Check.same("at the check of the free", 4, free.look(1));
    Check.same("report", "4 5 3", Seen.report(free));
    Subject loop = new Subject().set(2, 8).allocate(3, 2).storeByte(3, 0, 0).addNumber(3, 3, 1).goIfZero(7, 2);
    loop.start(true, 1, 0);
    Check.same("eight rounds of four and the check that fails", 2 + 8 * 4 + 1, loop.step(1000));
    Check.same("report", "1 16 2", Seen.report(loop));
  }

  @Says("those that go on at k go on at the first instruction that stands for instruction k"
      + " (the check, if it has one).")
  static void aPlainRunGoesOnAtKItself() {
    Subject x = new Subject().loadByte(3, 0, 0).goIfZero(2, 3).halt().loadByte(3, 0, 0).halt();
    x.start(false, 0, 0);
    x.step(2);
    Check.same("on at 3", 3, x.look(1));
    Check.same("and up to the halt", 2, x.step(9));
  }
}
