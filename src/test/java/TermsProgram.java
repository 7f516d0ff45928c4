/** Programs, registers and each operation. */
@Says("Terms")
final class TermsProgram {
  private static final int LEAST = Integer.MIN_VALUE;
  private static final int MOST = Integer.MAX_VALUE;
  private static final int[] NUMBERS = {0, 1, -1, 2, 7, -300, 65536, 65537, MOST - 1, MOST, LEAST, LEAST + 1};

  private TermsProgram() {}

  @Says("A PROGRAM has up to 40 INSTRUCTIONS, 0, 1, ..;")
  static void upTo40Instructions() {
    Subject x = new Subject();
    for (int i = 0; i < 40; i++) {
      Check.same("number", i, x.code(13, 2, 2, 0, 1));
    }
    Check.bounds("the 41st", () -> x.code(13, 2, 2, 0, 1));
    x.start(false, 0, 0);
    Check.same("steps", 40, x.step(1000));
    Check.same("done", 40, x.register(2));
    Check.same("the last one done", 39, x.look(1));
  }

  @Says("A PROGRAM has up to 40 INSTRUCTIONS, 0, 1, ..;")
  static void fortyInstructionsWithAnEightiethLine() {
    Subject x = new Subject().set(2, 100).allocate(3, 2);
    for (int i = 2; i < 40; i++) {
      x.storeByte(3, i, 1);
    }
    x.start(true, 0, 9);
    Check.same("steps", 78, x.step(1000));
    Check.same("the last one done", 77, x.look(1));
    Check.same("the last one stored", 9, x.heap(8 + 39));
  }

  @Says("REGISTERS 0 .. 7 are ints.")
  static void eightRegistersOfAnyInt() {
    for (int number : NUMBERS) {
      Subject x = new Subject();
      for (int r = 0; r < 8; r++) {
        x.set(r, number ^ r);
      }
      x.run(false, 0, 0);
      for (int r = 0; r < 8; r++) {
        Check.same("register " + r, number ^ r, x.register(r));
      }
    }
  }

  @Says("REGISTERS 0 .. 7 are ints.")
  static void whatIsTooLargeWrapsAround() {
    Check.same("add", LEAST, computed(1, MOST, 1, 5));
    Check.same("add below", MOST, computed(1, LEAST, -1, 5));
    Check.same("subtract", MOST, computed(2, LEAST, 1, 5));
    Check.same("subtract least", LEAST, computed(2, 0, LEAST, 5));
    Check.same("multiply", 1, computed(3, MOST, MOST, 5));
    Check.same("multiply least", LEAST, computed(3, LEAST, -1, 5));
    Check.same("multiply away", 0, computed(3, 65536, 65536, 5));
    Check.same("add k", LEAST, computed(13, MOST, 5, 1));
    Check.same("add k below", MOST, computed(13, LEAST, 5, -1));
  }

  @Says("REGISTERS 0 .. 7 are ints.")
  static void anAddressWrapsAroundToo() {
    Subject plain = new Subject().storeByte(0, LEAST, 1).storeInt(0, LEAST + 1, 1).run(false, LEAST, 1);
    Check.same("plain", 2, plain.look(0));
    Check.same("byte 0", 1, plain.heap(0));
    Check.same("byte 1", 1, plain.heap(1));
    Subject checked = new Subject().set(2, 8).allocate(3, 2).loadByte(4, 0, LEAST + 8).run(true, LEAST, 0);
    Check.same("checked", 2, checked.look(0));
  }

  @Says("An instruction has an OPERATION and r, a, b (registers) and k (an int), of which it uses what is named:")
  static void whatIsNotNamedIsNotUsed() {
    // Whatever stands for that which is not named, all that is seen is the same.
    for (int operation = 0; operation <= 14; operation++) {
      String first = usingOnlyTheNamed(operation, 4, 5);
      Check.same("operation " + operation, first, usingOnlyTheNamed(operation, 5, -1));
      Check.same("operation " + operation, first, usingOnlyTheNamed(operation, 6, 1000000));
    }
  }

  private static String usingOnlyTheNamed(int operation, int register, int number) {
    boolean r = operation <= 4 || operation == 6 || operation == 7 || operation == 13;
    boolean a = operation >= 1 && operation <= 13;
    boolean b = operation >= 1 && operation <= 3 || operation == 8 || operation == 9 || operation == 11;
    boolean k = operation == 0 || operation >= 6 && operation <= 11 || operation == 13;
    StringBuilder all = new StringBuilder();
    for (int checked = 0; checked < 2; checked++) {
      Subject x = new Subject().set(2, 16).allocate(3, 2).set(4, 21).set(5, 0).set(6, -30);
      x.code(operation, r ? 2 : register, a ? 3 : register, b ? 1 : register, k ? 8 : number);
      x.halt().halt().halt();
      x.run(checked == 1, 12, 34);
      for (int i = 0; i < 8; i++) {
        all.append(x.register(i)).append(' ');
      }
      for (int what = 0; what < 5; what++) {
        all.append(x.look(what)).append(' ');
      }
      for (int address = 0; address < 32; address++) {
        all.append(x.heap(address)).append(' ');
      }
      all.append(Seen.printed(x)).append(Seen.shadow(x));
    }
    return all.toString();
  }

  private static int computed(int operation, int x, int y, int k) {
    Subject subject = new Subject().with(operation, 6, 0, 1, k).run(false, x, y);
    Check.same("a stays", x, subject.register(0));
    Check.same("b stays", y, subject.register(1));
    return subject.register(6);
  }

  @Says("0 r is k.")
  static void operation0() {
    for (int k : NUMBERS) {
      Check.same("k " + k, k, computed(0, 5, 9, k));
    }
  }

  @Says("1 r is a + b.")
  static void operation1() {
    for (int x : NUMBERS) {
      for (int y : NUMBERS) {
        Check.same(x + " + " + y, x + y, computed(1, x, y, 5));
      }
    }
    Check.same("r, a and b the same", 42, new Subject().add(0, 0, 0).run(true, 21, 0).register(0));
  }

  @Says("2 r is a - b.")
  static void operation2() {
    for (int x : NUMBERS) {
      for (int y : NUMBERS) {
        Check.same(x + " - " + y, x - y, computed(2, x, y, 5));
      }
    }
    Check.same("r and b the same", -14, new Subject().subtract(1, 0, 1).run(true, 7, 21).register(1));
  }

  @Says("3 r is a * b.")
  static void operation3() {
    for (int x : NUMBERS) {
      for (int y : NUMBERS) {
        Check.same(x + " * " + y, x * y, computed(3, x, y, 5));
      }
    }
    Check.same("r, a and b the same", 49, new Subject().multiply(0, 0, 0).run(true, -7, 0).register(0));
  }

  @Says("4 r is a block allocated, of a's number.")
  static void operation4() {
    Subject x = new Subject().allocate(2, 0).allocate(3, 1).allocate(4, 4).run(false, 17, 100);
    Check.same("first", 8, x.register(2));
    Check.same("second", 48, x.register(3));
    Check.same("none of 0 bytes", 0, x.register(4));
    Check.same("a stays", 17, x.register(0));
    Check.same("blocks", 2, x.look(3));
  }

  @Says("5 a's address is freed.")
  static void operation5() {
    for (int checked = 0; checked < 2; checked++) {
      Subject x = new Subject().allocate(2, 0).allocate(3, 0).free(3).run(checked == 1, 8, 0);
      Check.same("over", 2, x.look(0));
      Check.same("blocks", 1, x.look(3));
      Check.same("in quarantine", 1, x.look(4));
      Check.same("shadow", "-1 0 -1 -1 -2 -1", Seen.shadow(x));
      Check.same("a stays", 32, x.register(3));
    }
  }

  /** A run with a block of 24 bytes at 8, in register 3, and x stored in its bytes 5 to 8. */
  private static Subject stored(int x, boolean checked) {
    Subject subject = new Subject().set(2, 24).allocate(3, 2).storeInt(3, 5, 0);
    subject.loadByte(4, 3, 5).loadByte(5, 3, 8).loadInt(6, 3, 5).loadInt(2, 3, 4);
    return subject.run(checked, x, 0);
  }

  @Says("6 r is the byte at a + k.")
  static void operation6() {
    for (int checked = 0; checked < 2; checked++) {
      for (int value : NUMBERS) {
        Subject x = stored(value, checked == 1);
        Check.same("lowest of " + value, value & 255, x.register(4));
        Check.same("highest of " + value, value >>> 24, x.register(5));
      }
      Subject below = new Subject().set(2, 24).allocate(3, 2).storeByte(3, 1, 2).addNumber(4, 3, 9);
      Check.same("k below 0", 24, below.loadByte(5, 4, -8).run(checked == 1, 0, 0).register(5));
    }
  }

  @Says("7 r is the four bytes there as an int, the lowest first.")
  static void operation7() {
    for (int checked = 0; checked < 2; checked++) {
      for (int value : NUMBERS) {
        Subject x = stored(value, checked == 1);
        Check.same("loaded", value, x.register(6));
        Check.same("loaded one byte before", value << 8, x.register(2));
      }
      Check.same("each byte above 127", 0xFEDCBA98, stored(0xFEDCBA98, checked == 1).register(6));
    }
    Subject bytes = new Subject().set(2, 1).set(3, 2).set(4, 3).set(5, 200);
    bytes.storeByte(0, 0, 2).storeByte(0, 1, 3).storeByte(0, 2, 4).storeByte(0, 3, 5).loadInt(6, 0, 0);
    Check.same("from single bytes", 0xC8030201, bytes.run(false, 100, 0).register(6));
  }

  @Says("8 the byte at a + k is the lowest byte of b.")
  static void operation8() {
    for (int value : new int[] {0, 1, 255, 256, 257, -1, -2, -256, -257, 0x12345678, LEAST, MOST}) {
      // Bytes 40 to 47 are 7 but for the one that is stored.
      Subject x = new Subject().set(2, 0x07070707).storeInt(0, 0, 2).storeInt(0, 4, 2).storeByte(0, 3, 1);
      x.run(false, 40, value);
      for (int address = 36; address < 52; address++) {
        int due = address == 43 ? value & 255 : address >= 40 && address < 48 ? 7 : 0;
        Check.same(value + " stored, byte " + address, due, x.heap(address));
      }
      Check.same("b stays", value, x.register(1));
    }
  }

  @Says("9 the four bytes there are b's.")
  static void operation9() {
    for (int checked = 0; checked < 2; checked++) {
      for (int value : new int[] {0x12345678, 0xFEDCBA98, 0, -1, LEAST, MOST}) {
        Subject x = stored(value, checked == 1);
        Check.same("byte ahead", 0, x.heap(12));
        for (int i = 0; i < 4; i++) {
          Check.same("byte " + i + " of " + value, value >>> (8 * i) & 255, x.heap(13 + i));
        }
        Check.same("byte behind", 0, x.heap(17));
        Check.same("b stays", value, x.register(0));
      }
    }
  }

  /** Where a run is after its first instruction, which goes on at 3 or else at 1. */
  private static int placeAfter(int operation, int x, int y) {
    Subject subject = new Subject().with(operation, 7, 0, 1, 3).halt().halt().halt().halt();
    subject.start(false, x, y);
    subject.step(1);
    return subject.look(1);
  }

  @Says("10 on at k, if a is 0.")
  static void operation10() {
    for (int x : NUMBERS) {
      Check.same("a " + x, x == 0 ? 3 : 1, placeAfter(10, x, 0));
      Check.same("a " + x, x == 0 ? 3 : 1, placeAfter(10, x, 5));
    }
  }

  @Says("11 on at k, if a is less than b.")
  static void operation11() {
    for (int x : NUMBERS) {
      for (int y : NUMBERS) {
        Check.same(x + " less than " + y, x < y ? 3 : 1, placeAfter(11, x, y));
      }
    }
  }

  @Says("11 on at k, if a is less than b.")
  static void onAtAnyInstructionThatIsThere() {
    for (int checked = 0; checked < 2; checked++) {
      Subject itself = new Subject().goIfLess(0, 1, 0);
      itself.start(checked == 1, 2, 3);
      Check.same("on at itself", 1000, itself.step(1000));
      Check.same("goes on", 1, itself.look(0));
      Subject last = new Subject().goIfZero(2, 2).set(3, 1).addNumber(4, 4, 1).run(checked == 1, 0, 0);
      Check.same("on at the last", 0, last.register(3));
      Check.same("the last is done", 1, last.register(4));
      Subject back = new Subject().addNumber(2, 2, 1).goIfLess(2, 0, 0).run(checked == 1, 9, 0);
      Check.same("back to the first", 9, back.register(2));
    }
  }

  /** A program that prints x, x - 3, x - 6 and so on, three steps each, without an end. */
  static Subject printing() {
    return new Subject().print(0).addNumber(0, 0, -3).goIfZero(7, 0);
  }

  @Says("12 a is PRINTED (lost, if 60 were).")
  static void sixtyArePrintedAndTheRestLost() {
    Subject x = printing();
    x.start(true, 2, 0);
    for (int i = 0; i < 70; i++) {
      Check.same("printed so far", Math.min(i, 60), x.look(2));
      x.step(3);
    }
    for (int i = 0; i < 60; i++) {
      Check.same("printed " + i, 2 - 3 * i, x.printed(i));
    }
    Check.bounds("the 61st", () -> x.printed(60));
    Check.same("the run goes on", 1, x.look(0));
    Check.same("a stays what it is", 2 - 3 * 70, x.register(0));
  }

  @Says("13 r is a + k.")
  static void operation13() {
    for (int x : NUMBERS) {
      for (int k : NUMBERS) {
        Check.same(x + " + " + k, x + k, computed(13, x, 5, k));
      }
    }
  }

  @Says("14 HALT.")
  static void operation14() {
    for (int checked = 0; checked < 2; checked++) {
      Subject x = new Subject().set(2, 1).halt().set(2, 2);
      x.start(checked == 1, 0, 0);
      Check.same("steps", 2, x.step(10));
      Check.same("over", 2, x.look(0));
      Check.same("not done", 1, x.register(2));
    }
  }
}
