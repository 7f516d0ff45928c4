/** Promises 1 to 5: a new object, code, clear, rewrite, rewritten. */
final class ProgramTest {
  private ProgramTest() {}

  public static void main(String[] args) {
    newObject();
    codeNumbersAndRefusals();
    codeAndClearEndTheRun();
    codeThatThrowsChangesNothing();
    rewriteCounts();
    rewriteRefuses();
    rewrittenLines();
    rewrittenRefuses();
    Check.end();
  }

  private static void newObject() {
    ShadowHeap x = new ShadowHeap();
    for (int what = 0; what <= 5; what++) {
      Check.same("new: look " + what, 0, x.look(what));
    }
    for (int r = 0; r < 8; r++) {
      Check.same("new: register " + r, 0, x.register(r));
    }
    for (int address = 0; address < 512; address++) {
      Check.same("new: heap " + address, 0, x.heap(address));
    }
    for (int k = 0; k < 64; k++) {
      Check.same("new: shadow " + k, -3, x.shadow(k));
    }
    Check.same("new: rewrite", 0, x.rewrite());
    Check.bounds("rewritten", "new", () -> x.rewritten(0, 0));
    Check.bounds("printed", "new", () -> x.printed(0));
    Check.state("report", "new", () -> x.report(0));
    Check.state("report of a wrong what", "new", () -> x.report(7));
    Check.state("step", "new", () -> x.step(1));
    Check.state("step of too many", "new", () -> x.step(-1));
    Check.state("start", "new", () -> x.start(false, 0, 0));
  }

  private static void codeNumbersAndRefusals() {
    ShadowHeap x = new ShadowHeap();
    int[][] wrong = {
      {-1, 0, 0, 0}, {15, 0, 0, 0}, {16, 0, 0, 0}, {Integer.MIN_VALUE, 0, 0, 0}, {Integer.MAX_VALUE, 0, 0, 0},
      {14, -1, 0, 0}, {14, 8, 0, 0}, {14, 0, -1, 0}, {14, 0, 8, 0}, {14, 0, 0, -1}, {14, 0, 0, 8},
      {0, 0, 8, 0}, {0, 0, 0, 8}, {5, 8, 0, 0},
    };
    for (int i = 0; i < 40; i++) {
      for (int[] w : wrong) {
        Check.argument("code", "wrong operation or register, " + i + " there", () -> x.code(w[0], w[1], w[2], w[3], 0));
      }
      Check.same("code " + i, i, x.code(i % 15, i % 8, 7 - i % 8, i / 5, -i));
      Check.same("look 5", i + 1, x.look(5));
    }
    Check.bounds("code", "41st", () -> x.code(0, 0, 0, 0, 0));
    for (int[] w : wrong) {
      Check.argument("code", "41st and wrong", () -> x.code(w[0], w[1], w[2], w[3], 0));
    }
    Check.same("look 5 when full", 40, x.look(5));
    x.clear();
    Check.same("look 5 when cleared", 0, x.look(5));
    Check.same("code when cleared", 0, x.code(14, 0, 0, 0, 0));
  }

  private static ShadowHeap withRun() {
    ShadowHeap x = new ShadowHeap();
    x.code(0, 2, 0, 0, 20);
    x.code(4, 3, 2, 0, 0);
    x.code(8, 0, 3, 2, 1);
    x.code(12, 0, 3, 0, 0);
    x.code(5, 0, 3, 0, 0);
    x.code(4, 4, 2, 0, 0);
    x.code(6, 5, 3, 0, 0);
    x.start(true, 5, 6);
    Check.same("all steps", 9, x.step(100));
    Check.same("a report", 3, x.look(0));
    Check.same("one printed", 1, x.look(2));
    Check.same("one live", 1, x.look(3));
    Check.same("one in quarantine", 1, x.look(4));
    return x;
  }

  private static void noRunButTheHeap(String what, ShadowHeap x) {
    for (int w = 0; w <= 4; w++) {
      Check.same(what + ": look " + w, 0, x.look(w));
    }
    for (int r = 0; r < 8; r++) {
      Check.same(what + ": register " + r, 0, x.register(r));
    }
    Check.bounds("printed", what, () -> x.printed(0));
    Check.state("report", what, () -> x.report(0));
    Check.state("step", what, () -> x.step(0));
    Check.same(what + ": heap", 20, x.heap(9));
    Check.same(what + ": shadow", "-1 -2 -2 -2 -1 -1 0 0 4 -1", Seen.shadowOf(x));
  }

  private static void codeAndClearEndTheRun() {
    ShadowHeap coded = withRun();
    coded.code(14, 0, 0, 0, 0);
    noRunButTheHeap("after code", coded);
    Check.same("look 5 after code", 8, coded.look(5));
    ShadowHeap cleared = withRun();
    cleared.clear();
    noRunButTheHeap("after clear", cleared);
    Check.same("look 5 after clear", 0, cleared.look(5));
    Check.same("rewrite after clear", 0, cleared.rewrite());
    Check.state("start", "after clear", () -> cleared.start(true, 0, 0));
    noRunButTheHeap("after a start that threw", cleared);
  }

  private static void codeThatThrowsChangesNothing() {
    ShadowHeap x = withRun();
    String before = Seen.of(x);
    Check.argument("code", "wrong operation", () -> x.code(15, 0, 0, 0, 0));
    Check.argument("code", "wrong register", () -> x.code(0, 0, 0, 8, 0));
    Check.argument("look", "wrong", () -> x.look(6));
    Check.argument("look", "wrong", () -> x.look(-1));
    Check.argument("register", "wrong", () -> x.register(8));
    Check.argument("register", "wrong", () -> x.register(-1));
    Check.argument("step", "wrong", () -> x.step(1001));
    Check.bounds("printed", "wrong", () -> x.printed(1));
    Check.bounds("printed", "wrong", () -> x.printed(-1));
    Check.argument("report", "wrong", () -> x.report(3));
    Check.argument("report", "wrong", () -> x.report(-1));
    Check.bounds("rewritten", "wrong", () -> x.rewritten(12, 0));
    Check.same("nothing changed", before, Seen.of(x));

    ShadowHeap full = new ShadowHeap();
    for (int i = 0; i < 40; i++) {
      full.code(13, 0, 0, 0, 1);
    }
    full.start(false, 0, 0);
    full.step(7);
    Check.bounds("code", "41st", () -> full.code(0, 0, 0, 0, 0));
    Check.same("the run goes on", 1, full.look(0));
    Check.same("its register", 7, full.register(0));
  }

  private static void rewriteCounts() {
    for (int operation = 0; operation <= 14; operation++) {
      ShadowHeap x = new ShadowHeap();
      x.code(operation, 0, 0, 0, 0);
      Check.same("rewrite of " + operation, operation >= 5 && operation <= 9 ? 2 : 1, x.rewrite());
    }
    ShadowHeap full = new ShadowHeap();
    for (int i = 0; i < 40; i++) {
      full.code(5 + i % 5, 0, 0, 0, i);
      Check.same("rewrite", 2 * i + 2, full.rewrite());
    }
    full.start(true, 0, 0);
    full.step(3);
    String before = Seen.of(full);
    full.rewrite();
    Check.same("rewrite leaves the run", before, Seen.of(full));
  }

  private static void rewriteRefuses() {
    int[] wrong = {-1, 2, 3, 40, Integer.MIN_VALUE, Integer.MAX_VALUE};
    for (int operation = 0; operation <= 14; operation++) {
      for (int k : wrong) {
        ShadowHeap x = new ShadowHeap();
        x.code(operation, 0, 0, 0, k);
        x.code(14, 0, 0, 0, 0);
        if (operation == 10 || operation == 11) {
          Check.state("rewrite", "on at " + k, x::rewrite);
          Check.state("start checked", "on at " + k, () -> x.start(true, 0, 0));
          Check.state("start plain", "on at " + k, () -> x.start(false, 0, 0));
          Check.state("rewritten", "on at " + k, () -> x.rewritten(0, 0));
          Check.state("rewritten, i and what wrong", "on at " + k, () -> x.rewritten(-1, 9));
          Check.same("no run", 0, x.look(0));
        } else {
          Check.same("rewrite", operation >= 5 && operation <= 9 ? 3 : 2, x.rewrite());
        }
      }
    }
    ShadowHeap later = new ShadowHeap();
    later.code(10, 0, 0, 0, 1);
    Check.state("rewrite", "not there yet", later::rewrite);
    later.code(14, 0, 0, 0, 0);
    Check.same("rewrite when it is there", 2, later.rewrite());
    later.code(11, 0, 0, 0, 2);
    Check.same("rewrite, on at itself", 3, later.rewrite());
  }

  private static void rewrittenLines() {
    ShadowHeap x = new ShadowHeap();
    x.code(10, 0, 0, 0, 3);
    x.code(6, 1, 2, 3, -7);
    x.code(5, 1, 2, 3, 77);
    x.code(9, 1, 2, 3, 1000);
    x.code(13, 1, 2, 3, 5);
    x.code(11, 0, 1, 2, 1);
    x.code(10, 0, 0, 0, 2);
    x.code(7, 0, 0, 0, 1);
    x.code(11, 0, 0, 0, 8);
    x.code(8, 0, 0, 0, 2);
    x.code(14, 0, 0, 0, 4);
    x.code(10, 0, 0, 0, 10);
    x.code(10, 0, 0, 0, 0);
    Check.same("the rewritten program",
        "10/0/5 15/1/-7 6/1/-7 16/2/77 5/2/77 15/3/1000 9/3/1000 13/4/5 11/5/1 10/6/3"
            + " 15/7/1 7/7/1 11/8/12 15/9/2 8/9/2 14/10/4 10/11/15 10/12/0",
        Seen.rewrittenOf(x));
  }

  private static void rewrittenRefuses() {
    ShadowHeap x = new ShadowHeap();
    Check.bounds("rewritten, what wrong too", "empty", () -> x.rewritten(0, 3));
    x.code(6, 0, 0, 0, 0);
    Check.bounds("rewritten", "i -1", () -> x.rewritten(-1, 0));
    Check.bounds("rewritten", "i 2", () -> x.rewritten(2, 0));
    Check.bounds("rewritten", "i least", () -> x.rewritten(Integer.MIN_VALUE, 0));
    Check.bounds("rewritten", "i most", () -> x.rewritten(Integer.MAX_VALUE, 0));
    Check.bounds("rewritten, what wrong too", "i 2", () -> x.rewritten(2, 3));
    Check.argument("rewritten", "what 3", () -> x.rewritten(1, 3));
    Check.argument("rewritten", "what -1", () -> x.rewritten(0, -1));
  }
}
