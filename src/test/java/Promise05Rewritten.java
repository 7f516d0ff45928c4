@Says("Promise 5: rewritten")
final class Promise05Rewritten {
  private static final int LEAST = Integer.MIN_VALUE;
  private static final int MOST = Integer.MAX_VALUE;

  private Promise05Rewritten() {}

  @Says("Of number i of the rewritten program: what 0 its operation, 15 for a check of bytes,"
      + " 16 of an address to be freed;")
  static void what0TheOperation() {
    for (int operation = 0; operation <= 14; operation++) {
      Subject x = new Subject().halt().with(operation, 0, 0, 0, 0);
      Check.same("ahead of " + operation, 14, x.rewritten(0, 0));
      if (operation >= 5 && operation <= 9) {
        Check.same("check of " + operation, operation == 5 ? 16 : 15, x.rewritten(1, 0));
        Check.same("behind it", operation, x.rewritten(2, 0));
      } else {
        Check.same("itself", operation, x.rewritten(1, 0));
      }
    }
  }

  @Says("1 the instruction for which it stands;")
  static void what1TheInstruction() {
    Subject x = new Subject().halt().free(0).halt().loadByte(0, 0, 0).storeInt(0, 0, 0).halt();
    int[] due = {0, 1, 1, 2, 3, 3, 4, 4, 5};
    for (int i = 0; i < due.length; i++) {
      Check.same("line " + i, due[i], x.rewritten(i, 1));
    }
    Subject full = new Subject();
    for (int i = 0; i < 40; i++) {
      full.free(0);
    }
    for (int i = 0; i < 80; i++) {
      Check.same("line " + i, i / 2, full.rewritten(i, 1));
    }
  }

  @Says("2 k, as it is there.")
  static void what2K() {
    for (int k : new int[] {0, 1, -1, 40, 512, LEAST, MOST}) {
      for (int operation = 0; operation <= 14; operation++) {
        if (operation != 10 && operation != 11) {
          Subject x = new Subject().with(operation, 0, 0, 0, k);
          Check.same("k of " + operation, k, x.rewritten(0, 2));
          if (operation >= 5 && operation <= 9) {
            Check.same("k of " + operation + " behind its check", k, x.rewritten(1, 2));
          }
        }
      }
    }
  }

  @Says("2 k, as it is there.")
  static void what2WhereItGoesOn() {
    for (int operation : new int[] {10, 11}) {
      // Lines: 0 check, 1 free, 2 halt, 3 check, 4 store, 5 goes on.
      int[] due = {0, 2, 3, 5};
      for (int k = 0; k < due.length; k++) {
        Subject x = new Subject().free(0).halt().storeByte(0, 0, 0).with(operation, 0, 0, 0, k);
        Check.same("on at " + k, due[k], x.rewritten(5, 2));
      }
    }
  }

  @Says("IndexOutOfBoundsException: there is none (as with rewrite());")
  static void thereIsNone() {
    Check.bounds("no program", () -> new Subject().rewritten(0, 0));
    Subject x = new Subject().halt().free(0);
    for (int i : new int[] {-1, 3, 4, LEAST, MOST}) {
      for (int what = 0; what <= 2; what++) {
        int w = what;
        Check.bounds("line " + i, () -> x.rewritten(i, w));
      }
    }
    Check.same("the last line", 5, x.rewritten(2, 0));
    Subject full = new Subject();
    for (int i = 0; i < 40; i++) {
      full.free(0);
    }
    Check.same("the 80th line", 5, full.rewritten(79, 0));
    Check.bounds("the 81st line", () -> full.rewritten(80, 0));
  }

  @Says("IllegalStateException as with rewrite() (tested first);")
  static void onAtOneThatIsNotThere() {
    for (int k : new int[] {-1, 2, LEAST, MOST}) {
      Subject x = new Subject().halt().goIfLess(0, 0, k);
      Check.state("line 0", () -> x.rewritten(0, 0));
      Check.state("line -1", () -> x.rewritten(-1, 0));
      Check.state("line 2", () -> x.rewritten(2, 0));
      Check.state("what 3", () -> x.rewritten(0, 3));
      Check.state("line and what", () -> x.rewritten(7, -1));
    }
  }

  @Says("IllegalArgumentException: another what.")
  static void anotherWhat() {
    Subject x = new Subject().free(0);
    for (int what : new int[] {-1, 3, 4, LEAST, MOST}) {
      Check.argument("check, what " + what, () -> x.rewritten(0, what));
      Check.argument("free, what " + what, () -> x.rewritten(1, what));
    }
  }
}
