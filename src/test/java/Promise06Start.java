@Says("Promise 6: start")
final class Promise06Start {
  private static final int LEAST = Integer.MIN_VALUE;
  private static final int MOST = Integer.MAX_VALUE;

  private Promise06Start() {}

  @Says("Begins a run, in place of another one;")
  static void inPlaceOfAnotherOne() {
    for (int before = 0; before < 2; before++) {
      for (int steps = 0; steps < 12; steps++) {
        Subject x = new Subject();
        Scenario.write(x, "a8 p8 f8 g8");
        x.start(before == 1, 5, 6);
        x.step(steps);
        x.start(before == 0, 7, 8);
        Check.same("goes on", 1, x.look(0));
        Check.same("at the first", 0, x.look(1));
        Check.same("printed", 0, x.look(2));
        Check.same("blocks", 0, x.look(3));
        Check.same("in quarantine", 0, x.look(4));
        Check.same("shadow", "", Seen.shadow(x));
        Check.same("byte", 0, x.heap(8));
        Check.bounds("nothing printed", () -> x.printed(0));
        Check.state("no report", () -> x.report(0));
        Check.same("its steps", before == 0 ? 11 : 9, x.step(1000));
        Check.same("its end", before == 0 ? 3 : 2, x.look(0));
      }
    }
  }

  @Says("Begins a run, in place of another one;")
  static void nothingIsDoneYet() {
    Subject x = new Subject().addNumber(0, 0, 1).print(0);
    x.start(false, 5, 0);
    Check.same("register", 5, x.register(0));
    Check.same("printed", 0, x.look(2));
    Check.same("where", 0, x.look(1));
  }

  @Says("checked: of the rewritten program;")
  static void checkedIsOfTheRewrittenProgram() {
    Subject x = new Subject().set(2, 8).allocate(3, 2).storeByte(3, 8, 2);
    x.start(true, 0, 0);
    Check.same("checked: steps", 3, x.step(9));
    Check.same("checked: reported", 3, x.look(0));
    x.start(false, 0, 0);
    Check.same("plain: steps", 3, x.step(9));
    Check.same("plain: over", 2, x.look(0));
    Check.same("plain: stored", 8, x.heap(16));
  }

  @Says("registers 0 and 1 are x and y.")
  static void registers0And1AreXAndY() {
    for (int checked = 0; checked < 2; checked++) {
      for (int[] xy : new int[][] {{0, 0}, {1, 2}, {-1, 7}, {LEAST, MOST}, {MOST, LEAST}}) {
        Subject x = new Subject().set(0, 9).set(1, 9).set(2, 9).set(7, 9).run(true, 3, 4);
        x.start(checked == 1, xy[0], xy[1]);
        Check.same("x", xy[0], x.register(0));
        Check.same("y", xy[1], x.register(1));
        for (int r = 2; r < 8; r++) {
          Check.same("register " + r, 0, x.register(r));
        }
      }
    }
  }

  @Says("IllegalStateException: there are no instructions,")
  static void thereAreNoInstructions() {
    Check.state("new, plain", () -> new Subject().start(false, 0, 0));
    Check.state("new, checked", () -> new Subject().start(true, 0, 0));
    Subject x = Scenario.plain("a8");
    x.clear();
    Check.state("cleared, plain", () -> x.start(false, 0, 0));
    Check.state("cleared, checked", () -> x.start(true, 0, 0));
    Check.same("no run", 0, x.look(0));
    x.halt();
    x.start(false, 0, 0);
    Check.same("with one instruction", 1, x.look(0));
  }

  @Says("or as with rewrite() (plain too).")
  static void onAtOneThatIsNotThere() {
    for (int operation : new int[] {10, 11}) {
      for (int k : new int[] {-1, 2, 3, 40, LEAST, MOST}) {
        // The run would halt before it got there.
        Subject x = new Subject().halt().with(operation, 0, 0, 0, k);
        Check.state("plain, on at " + k, () -> x.start(false, 0, 0));
        Check.state("checked, on at " + k, () -> x.start(true, 0, 0));
        Check.same("no run", 0, x.look(0));
      }
      for (int k : new int[] {0, 1}) {
        Subject x = new Subject().halt().with(operation, 0, 0, 0, k);
        x.start(false, 0, 0);
        x.start(true, 0, 0);
        Check.same("on at " + k, 1, x.look(0));
      }
    }
  }
}
