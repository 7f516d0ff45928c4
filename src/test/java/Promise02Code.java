@Says("Promise 2: code")
final class Promise02Code {
  private static final int LEAST = Integer.MIN_VALUE;
  private static final int MOST = Integer.MAX_VALUE;

  private Promise02Code() {}

  @Says("A new instruction at the end: its number;")
  static void atTheEndWithItsNumber() {
    Subject x = new Subject();
    for (int i = 0; i < 40; i++) {
      Check.same("number", i, x.code(i % 15, i % 8, 7 - i % 8, i / 5, i % 2 == 0 ? LEAST : MOST));
      Check.same("instructions", i + 1, x.look(5));
    }
    Subject done = new Subject().set(2, 5).multiply(2, 2, 2).addNumber(2, 2, 1).run(false, 0, 0);
    Check.same("done in their order", 26, done.register(2));
    Check.same("operations in their order", "0/0/5 3/1/1000 13/2/1", Seen.rewritten(done));
  }

  @Says("there is no run then.")
  static void thereIsNoRunThen() {
    Subject going = new Subject().print(0).print(0);
    going.start(false, 5, 0);
    going.step(1);
    for (Subject x : new Subject[] {
      going, Scenario.plain("a8"), Scenario.checked("a8 a8 f8 g7"), Scenario.plain("a8 a8 f8 f1")
    }) {
      Check.holds("there is a run before", x.look(0) != 0);
      x.code(14, 0, 0, 0, 0);
      Check.same("no run", 0, x.look(0));
      Check.state("step", () -> x.step(1));
      Check.bounds("printed", () -> x.printed(0));
      Check.state("report", () -> x.report(0));
    }
  }

  @Says("IllegalArgumentException: no operation 0 .. 14,")
  static void noOperation() {
    for (int operation : new int[] {-1, 15, 16, 17, -15, LEAST, MOST}) {
      Check.argument("operation " + operation, () -> new Subject().code(operation, 0, 0, 0, 0));
    }
    for (int operation = 0; operation <= 14; operation++) {
      Check.same("operation " + operation, 0, new Subject().code(operation, 0, 0, 0, 0));
    }
  }

  @Says("or no registers (all three must be 0 .. 7);")
  static void noRegister() {
    for (int operation = 0; operation <= 14; operation++) {
      int o = operation;
      for (int wrong : new int[] {-1, 8, 9, LEAST, MOST}) {
        Check.argument("r " + wrong + " of " + o, () -> new Subject().code(o, wrong, 0, 0, 0));
        Check.argument("a " + wrong + " of " + o, () -> new Subject().code(o, 0, wrong, 0, 0));
        Check.argument("b " + wrong + " of " + o, () -> new Subject().code(o, 0, 0, wrong, 0));
      }
      Check.same("7 of " + o, 0, new Subject().code(o, 7, 7, 7, 0));
      Check.same("0 of " + o, 0, new Subject().code(o, 0, 0, 0, 0));
    }
  }

  @Says("or no registers (all three must be 0 .. 7);")
  static void anyKWillDo() {
    for (int operation = 0; operation <= 14; operation++) {
      for (int k : new int[] {-1, 40, 512, LEAST, MOST}) {
        Check.same("k " + k, 0, new Subject().code(operation, 0, 0, 0, k));
      }
    }
  }

  @Says("IndexOutOfBoundsException: there are 40.")
  static void thereAre40() {
    Subject x = new Subject();
    for (int i = 0; i < 39; i++) {
      x.halt();
    }
    Check.same("the 40th", 39, x.code(14, 0, 0, 0, 0));
    Check.bounds("the 41st", () -> x.code(14, 0, 0, 0, 0));
    Check.bounds("the 41st again", () -> x.code(0, 7, 7, 7, MOST));
    Check.same("instructions", 40, x.look(5));
    x.clear();
    Check.same("cleared", 0, x.code(14, 0, 0, 0, 0));
  }

  @Says("IndexOutOfBoundsException: there are 40.")
  static void thereAre40WithAsManyChecks() {
    Subject x = new Subject();
    for (int i = 0; i < 40; i++) {
      Check.same("number", i, x.code(5 + i % 5, 0, 0, 0, 0));
    }
    Check.same("lines", 80, x.rewrite());
    Check.bounds("the 41st", () -> x.code(5, 0, 0, 0, 0));
    Check.same("lines", 80, x.rewrite());
  }
}
