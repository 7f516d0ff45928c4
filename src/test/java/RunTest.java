/** Promises 6 to 10 and 13: start, step, look, register, printed, report, and each operation. */
final class RunTest {
  private static final int LEAST = Integer.MIN_VALUE;
  private static final int MOST = Integer.MAX_VALUE;

  private RunTest() {}

  public static void main(String[] args) {
    startBeginsAnew();
    stepCounts();
    stepRefuses();
    overBehindTheLast();
    arithmetic();
    goingOn();
    printing();
    loadsAndStores();
    crashes();
    reportKinds();
    reportOfFourBytes();
    reportOfWrongFree();
    lookRefuses();
    Check.end();
  }

  private static void startBeginsAnew() {
    ShadowHeap x = new ShadowHeap();
    x.code(0, 2, 0, 0, 50);
    x.code(4, 3, 2, 0, 0);
    x.code(9, 0, 3, 0, 0);
    x.code(4, 4, 2, 0, 0);
    x.code(5, 0, 3, 0, 0);
    x.code(12, 0, 1, 0, 0);
    x.code(6, 5, 3, 0, 0);
    for (int round = 0; round < 3; round++) {
      x.start(true, 7 + round, -9);
      Check.same("goes on", 1, x.look(0));
      Check.same("at the first", 0, x.look(1));
      Check.same("none printed", 0, x.look(2));
      Check.same("no blocks", 0, x.look(3));
      Check.same("no quarantine", 0, x.look(4));
      Check.same("x", 7 + round, x.register(0));
      Check.same("y", -9, x.register(1));
      for (int r = 2; r < 8; r++) {
        Check.same("register " + r, 0, x.register(r));
      }
      Check.same("shadow all wild", "", Seen.shadowOf(x));
      for (int address = 0; address < 512; address++) {
        Check.same("heap " + address, 0, x.heap(address));
      }
      Check.bounds("printed", "new run", () -> x.printed(0));
      Check.state("report", "new run", () -> x.report(0));
      x.step(round == 1 ? 7 : 100);
      Check.same("wrote", 7 + round, x.heap(8));
    }
    x.start(false, 1, 2);
    Check.same("plain in place of it", 7, x.step(100));
    Check.same("plain is over", 2, x.look(0));
  }

  private static void stepCounts() {
    ShadowHeap x = new ShadowHeap();
    x.code(13, 0, 0, 0, 1);
    x.code(10, 0, 7, 0, 0);
    x.start(false, 0, 0);
    Check.same("step 0", 0, x.step(0));
    Check.same("nothing done", 0, x.register(0));
    Check.same("step 1", 1, x.step(1));
    Check.same("where", 1, x.look(1));
    Check.same("step 1000", 1000, x.step(1000));
    Check.same("done", 501, x.register(0));
    Check.same("where", 1, x.look(1));
    Check.same("goes on", 1, x.look(0));
    ShadowHeap halting = new ShadowHeap();
    halting.code(14, 0, 0, 0, 0);
    halting.code(13, 0, 0, 0, 1);
    halting.start(true, 0, 0);
    Check.same("halt is a step", 1, halting.step(5));
    Check.same("over", 2, halting.look(0));
    Check.same("at the halt", 0, halting.look(1));
    Check.same("no more steps", 0, halting.step(5));
    Check.same("not done", 0, halting.register(0));
  }

  private static void stepRefuses() {
    ShadowHeap x = new ShadowHeap();
    x.code(13, 0, 0, 0, 1);
    Check.state("step", "no run", () -> x.step(1));
    Check.state("step", "no run, n wrong", () -> x.step(1001));
    x.start(false, 0, 0);
    for (int n : new int[] {-1, 1001, LEAST, MOST}) {
      Check.argument("step", "n " + n, () -> x.step(n));
    }
    Check.same("nothing done", 0, x.register(0));
    Check.same("step 1000", 1, x.step(1000));
    Check.argument("step", "over, n wrong", () -> x.step(1001));
    Check.same("step when over", 0, x.step(1000));
  }

  private static void overBehindTheLast() {
    for (int operation : new int[] {0, 1, 2, 3, 4, 6, 7, 8, 9, 12, 13}) {
      ShadowHeap x = new ShadowHeap();
      x.code(0, 2, 0, 0, 1);
      x.code(operation, 2, 3, 4, 0);
      x.start(false, 0, 0);
      Check.same("two steps", 2, x.step(2));
      Check.same("over at once behind " + operation, 2, x.look(0));
      Check.same("the last one done", 1, x.look(1));
    }
    ShadowHeap x = new ShadowHeap();
    x.code(11, 0, 0, 1, 0);
    x.start(false, 3, 3);
    Check.same("not taken", 1, x.step(9));
    Check.same("over", 2, x.look(0));
    x.start(false, 2, 3);
    Check.same("taken", 9, x.step(9));
    Check.same("goes on", 1, x.look(0));
    ShadowHeap freeing = new ShadowHeap();
    freeing.code(5, 0, 0, 0, 0);
    freeing.start(true, 0, 0);
    Check.same("the check alone", 1, freeing.step(1));
    Check.same("goes on", 1, freeing.look(0));
    Check.same("at the free", 1, freeing.look(1));
    Check.same("the free", 1, freeing.step(1));
    Check.same("over", 2, freeing.look(0));
    Check.same("at the free", 1, freeing.look(1));
  }

  private static void arithmetic() {
    int[] values = {0, 1, -1, 7, -300, 65537, MOST, LEAST};
    for (int x : values) {
      for (int y : values) {
        Check.same("set", y, computed(0, x, 9, y));
        Check.same("add", x + y, computed(1, x, y, 5));
        Check.same("subtract", x - y, computed(2, x, y, 5));
        Check.same("multiply", x * y, computed(3, x, y, 5));
        Check.same("add k", x + y, computed(13, x, 5, y));
      }
    }
    ShadowHeap same = new ShadowHeap();
    same.code(1, 0, 0, 0, 0);
    same.start(true, 21, 0);
    same.step(1);
    Check.same("one register for all", 42, same.register(0));
  }

  private static int computed(int operation, int x, int y, int k) {
    ShadowHeap heap = new ShadowHeap();
    heap.code(operation, 6, 0, 1, k);
    heap.start(false, x, y);
    heap.step(1);
    Check.same("a stays", x, heap.register(0));
    Check.same("b stays", y, heap.register(1));
    return heap.register(6);
  }

  private static void goingOn() {
    int[] values = {0, 1, -1, 5, MOST, LEAST};
    for (int x : values) {
      for (int y : values) {
        Check.same("on if zero", x == 0 ? 3 : 1, placeAfter(10, x, y));
        Check.same("on if less", x < y ? 3 : 1, placeAfter(11, x, y));
      }
    }
    ShadowHeap x = new ShadowHeap();
    x.code(10, 0, 2, 0, 2);
    x.code(14, 0, 0, 0, 0);
    x.code(6, 3, 0, 0, 0);
    x.start(true, 0, 0);
    x.step(1);
    Check.same("on at the check", 2, x.look(1));
    Check.same("the check fails", 1, x.step(9));
    Check.same("reported", "3 0 2", Seen.report(x));
    Check.same("at the check", 2, x.look(1));
  }

  private static int placeAfter(int operation, int x, int y) {
    ShadowHeap heap = new ShadowHeap();
    heap.code(operation, 0, 0, 1, 3);
    for (int i = 0; i < 4; i++) {
      heap.code(14, 0, 0, 0, 0);
    }
    heap.start(false, x, y);
    heap.step(1);
    return heap.look(1);
  }

  private static void printing() {
    ShadowHeap x = new ShadowHeap();
    x.code(12, 0, 0, 0, 0);
    x.code(13, 0, 0, 0, -3);
    x.code(10, 0, 7, 0, 0);
    x.start(true, 2, 0);
    for (int i = 0; i < 70; i++) {
      Check.same("printed so far", Math.min(i, 60), x.look(2));
      Check.bounds("printed", "not yet", () -> x.printed(x.look(2)));
      x.step(3);
    }
    for (int i = 0; i < 60; i++) {
      Check.same("printed " + i, 2 - 3 * i, x.printed(i));
    }
    Check.bounds("printed", "61st", () -> x.printed(60));
    Check.bounds("printed", "-1", () -> x.printed(-1));
    Check.bounds("printed", "most", () -> x.printed(MOST));
    Check.bounds("printed", "least", () -> x.printed(LEAST));
    x.start(false, 5, 0);
    Check.bounds("printed", "new run", () -> x.printed(0));
    x.step(1);
    Check.same("printed anew", 5, x.printed(0));
  }

  private static void loadsAndStores() {
    ShadowHeap x = new ShadowHeap();
    x.code(0, 2, 0, 0, 12);
    x.code(4, 3, 2, 0, 0);
    x.code(9, 0, 3, 0, 1);
    x.code(8, 0, 3, 1, 11);
    x.code(6, 4, 3, 0, 1);
    x.code(6, 5, 3, 0, 4);
    x.code(7, 6, 3, 0, 1);
    x.code(7, 7, 3, 0, 8);
    for (int plain = 0; plain < 2; plain++) {
      x.start(plain == 0, 0xFEDCBA98, 0x1234F7);
      x.step(100);
      Check.same("over", 2, x.look(0));
      Check.same("heap 8", 0, x.heap(8));
      Check.same("heap 9", 0x98, x.heap(9));
      Check.same("heap 10", 0xBA, x.heap(10));
      Check.same("heap 11", 0xDC, x.heap(11));
      Check.same("heap 12", 0xFE, x.heap(12));
      Check.same("heap 13", 0, x.heap(13));
      Check.same("heap 19", 0xF7, x.heap(19));
      Check.same("heap 20", 0, x.heap(20));
      Check.same("byte", 0x98, x.register(4));
      Check.same("high byte", 0xFE, x.register(5));
      Check.same("int", 0xFEDCBA98, x.register(6));
      Check.same("int of a byte", 0xF7000000, x.register(7));
    }
  }

  private static ShadowHeap touching(int operation, boolean checked, int address, int k) {
    ShadowHeap x = new ShadowHeap();
    x.code(operation, 2, 0, 1, k);
    x.start(checked, address, -1);
    Check.same("one step, or the last", 1, x.step(1));
    return x;
  }

  private static void crashes() {
    for (int operation = 6; operation <= 9; operation++) {
      int width = operation == 7 || operation == 9 ? 4 : 1;
      for (int address : new int[] {LEAST, -600, -4, -3, -2, -1, 0, 1, 255, 507, 508, 509, 510, 511, 512, 513, MOST - 3, MOST - 2, MOST}) {
        boolean inside = address >= 0 && address <= 512 - width;
        for (int k : new int[] {0, 9, -9}) {
          ShadowHeap x = touching(operation, false, address - k, k);
          Check.same(operation + " at " + address, inside ? 2 : 4, x.look(0));
          Check.same("where", 0, x.look(1));
          Check.state("report", "plain", () -> x.report(0));
          int touched = 0;
          for (int i = 0; i < 512; i++) {
            touched += x.heap(i) == 255 ? 1 : 0;
          }
          Check.same("bytes stored", operation >= 8 && inside ? width : 0, touched);
          Check.same("no more steps", 0, x.step(1));
        }
      }
    }
    for (int address : new int[] {LEAST, -8, -1, 1, 8, 16, 504, 511, 512, 520, MOST}) {
      ShadowHeap x = new ShadowHeap();
      x.code(12, 0, 0, 0, 0);
      x.code(5, 0, 0, 0, 0);
      x.code(14, 0, 0, 0, 0);
      x.start(false, address, 0);
      Check.same("two steps", 2, x.step(10));
      Check.same("crashed", 4, x.look(0));
      Check.same("where", 1, x.look(1));
      Check.same("printed stays", address, x.printed(0));
    }
    Check.same("free of 0", 2, touching(5, false, 0, 9).look(0));
  }

  /** Blocks of 13 and 40 bytes at 8 and 40, the second one freed; then a touch at register 0. */
  private static ShadowHeap checkedTouch(int operation, int address, int k) {
    ShadowHeap x = new ShadowHeap();
    x.code(0, 2, 0, 0, 13);
    x.code(4, 3, 2, 0, 0);
    x.code(0, 2, 0, 0, 40);
    x.code(4, 4, 2, 0, 0);
    x.code(5, 0, 4, 0, 0);
    x.code(operation, 5, 0, 1, k);
    x.code(12, 0, 5, 0, 0);
    x.start(true, address, 77);
    x.step(6);
    Check.same("shadow", "-1 0 5 -1 -1 -2 -2 -2 -2 -2 -1", Seen.shadowOf(x));
    x.step(100);
    return x;
  }

  private static void reportKinds() {
    for (int operation = 6; operation <= 8; operation += 2) {
      for (int address = -3; address < 516; address++) {
        int kind = address < 0 || address > 511 ? 5
            : address < 8 ? 1
            : address < 21 ? 0
            : address < 40 ? 1
            : address < 80 ? 2
            : address < 88 ? 1 : 3;
        ShadowHeap x = checkedTouch(operation, address - 2, 2);
        Check.same("state at " + address, kind == 0 ? 2 : 3, x.look(0));
        if (kind != 0) {
          Check.same("report", kind + " " + address + " 5", Seen.report(x));
          Check.same("where", 6, x.look(1));
          Check.same("nothing printed", 0, x.look(2));
          Check.same("not stored", 0, address < 0 || address > 511 ? 0 : x.heap(address));
        } else {
          Check.same("where", 8, x.look(1));
          Check.same("printed", 1, x.look(2));
          Check.same("stored", operation == 8 ? 77 : 0, x.heap(address));
          Check.state("report", "over", () -> x.report(0));
          Check.state("report", "over, wrong what", () -> x.report(3));
        }
      }
    }
    Check.same("least", "5 " + LEAST + " 5", Seen.report(checkedTouch(6, LEAST, 0)));
    Check.same("most", "5 " + MOST + " 5", Seen.report(checkedTouch(8, MOST, 0)));
    Check.same("around", 2, checkedTouch(6, LEAST, LEAST + 8).look(0));
  }

  private static void reportOfFourBytes() {
    for (int operation = 7; operation <= 9; operation += 2) {
      for (int address = 8; address <= 17; address++) {
        Check.same("four bytes at " + address, 2, checkedTouch(operation, address, 0).look(0));
      }
      for (int address = 18; address <= 20; address++) {
        Check.same("behind the first ones", "1 21 5", Seen.report(checkedTouch(operation, address, 0)));
      }
      for (int address = 5; address <= 7; address++) {
        Check.same("ahead", "1 " + address + " 5", Seen.report(checkedTouch(operation, address, 0)));
      }
      Check.same("red first", "1 38 5", Seen.report(checkedTouch(operation, 38, 0)));
      Check.same("freed first", "2 77 5", Seen.report(checkedTouch(operation, 77, 0)));
      Check.same("red before wild", "1 86 5", Seen.report(checkedTouch(operation, 86, 0)));
      Check.same("wild before the end", "3 510 5", Seen.report(checkedTouch(operation, 510, 0)));
      Check.same("not in the heap", "5 512 5", Seen.report(checkedTouch(operation, 512, 0)));
      Check.same("ahead of the heap", "5 -2 5", Seen.report(checkedTouch(operation, -2, 0)));
      Check.same("most", "5 " + MOST + " 5", Seen.report(checkedTouch(operation, MOST, 0)));
      Check.same("most less two", "5 " + (MOST - 2) + " 5", Seen.report(checkedTouch(operation, MOST - 2, 0)));
    }
  }

  private static void reportOfWrongFree() {
    for (int address : new int[] {LEAST, -8, 1, 7, 9, 12, 16, 24, 32, 40, 41, 48, 88, 96, 504, 512, MOST}) {
      ShadowHeap x = checkedTouch(5, address, 0);
      Check.same("reported", 3, x.look(0));
      Check.same("report", "4 " + address + " 5", Seen.report(x));
      Check.same("live", 1, x.look(3));
      Check.same("in quarantine", 1, x.look(4));
    }
    Check.same("free of 0", 2, checkedTouch(5, 0, 40).look(0));
    ShadowHeap x = checkedTouch(5, 8, 1);
    Check.same("free of a block", 2, x.look(0));
    Check.same("none live", 0, x.look(3));
    Check.same("two in quarantine", 2, x.look(4));
  }

  private static void lookRefuses() {
    ShadowHeap x = new ShadowHeap();
    for (int wrong : new int[] {-1, 6, 7, LEAST, MOST}) {
      Check.argument("look", "no run", () -> x.look(wrong));
    }
    for (int wrong : new int[] {-1, 8, LEAST, MOST}) {
      Check.argument("register", "no run", () -> x.register(wrong));
    }
    x.code(14, 0, 0, 0, 0);
    x.start(true, 0, 0);
    Check.argument("look", "a run", () -> x.look(6));
    Check.argument("register", "a run", () -> x.register(8));
    Check.same("one instruction", 1, x.look(5));
  }
}
