/** Runs: how they begin, go on and get over. */
@Says("Terms")
final class TermsRun {
  private TermsRun() {}

  @Says("A RUN is of the program (PLAIN) or of the rewritten one.")
  static void ofTheProgramOrOfTheRewrittenOne() {
    Subject x = new Subject().loadByte(2, 0, 0).free(3).set(4, 9);
    x.start(false, 20, 0);
    Check.same("plain: an instruction is a step", 3, x.step(100));
    Check.same("plain: over", 2, x.look(0));
    x.start(true, 20, 0);
    Check.same("rewritten: the first check fails", 1, x.step(100));
    Check.same("rewritten: reported", 3, x.look(0));
  }

  @Says("It begins with an empty heap as at first, no quarantine, registers 0.")
  static void itBeginsAsAtFirst() {
    for (int before = 0; before < 2; before++) {
      boolean checkedBefore = before == 1;
      for (int now = 0; now < 2; now++) {
        boolean checkedNow = now == 1;
        int[] bytes = Seen.heap(() -> begunAgain(checkedBefore, checkedNow));
        for (int address = 0; address < 512; address++) {
          Check.same("byte " + address, 0, bytes[address]);
        }
        Subject x = begunAgain(checkedBefore, checkedNow);
        Check.same("all is wild", "", Seen.shadow(x));
        Check.same("blocks", 0, x.look(3));
        Check.same("quarantine", 0, x.look(4));
        for (int r = 0; r < 8; r++) {
          Check.same("register " + r, 0, x.register(r));
        }
        Check.same("goes on", 1, x.look(0));
        Check.same("at the first", 0, x.look(1));
        Check.same("nothing printed", 0, x.look(2));
      }
    }
  }

  private static Subject begunAgain(boolean checkedBefore, boolean checkedNow) {
    Subject x = new Subject();
    Scenario.write(x, "a40 P8 P44 a24 f8 f64 a100 p112 a8");
    x.set(2, 2).set(3, 3).set(4, 4).set(7, 7);
    x.run(checkedBefore, -1, -2);
    Check.same("the run before got over", 2, x.look(0));
    x.start(checkedNow, 0, 0);
    return x;
  }

  @Says("It begins with an empty heap as at first, no quarantine, registers 0.")
  static void noByteIsLeftOfTheRunBefore() {
    Check.same("byte 0 before", 255, Scenario.onFilledHeap("a1").heap(0));
    Check.same("byte 511 before", 255, Scenario.onFilledHeap("a1").heap(511));
    for (int now = 0; now < 2; now++) {
      boolean checkedNow = now == 1;
      int[] bytes = Seen.heap(() -> {
        Subject x = Scenario.onFilledHeap("a1");
        x.start(checkedNow, 0, 0);
        return x;
      });
      for (int address = 0; address < 512; address++) {
        Check.same("byte " + address, 0, bytes[address]);
      }
    }
  }

  @Says("It begins with an empty heap as at first, no quarantine, registers 0.")
  static void whatWaitedBeforeIsForgotten() {
    Subject x = new Subject();
    Scenario.write(x, "a24 a24 a24 a24 f8 f48 f88 f128");
    for (int round = 0; round < 4; round++) {
      x.run(round % 2 == 1, 0, 0);
      Check.same("addresses in round " + round, "8 48 88 128", Seen.printed(x));
      Check.same("160 bytes wait in round " + round, 4, x.look(4));
      Check.same("none was released in round " + round, -2, x.shadow(1));
    }
  }

  @Says("A step does one instruction, or check.")
  static void aStepIsOneInstructionOrCheck() {
    Subject x = new Subject().set(2, 8).allocate(3, 2).storeByte(3, 0, 2).free(3).halt();
    x.start(true, 0, 0);
    for (int line = 0; line < 6; line++) {
      Check.same("where", line, x.look(1));
      Check.same("goes on", 1, x.look(0));
      Check.same("a step", 1, x.step(1));
    }
    Check.same("at the halt", 6, x.look(1));
    Check.same("goes on", 1, x.look(0));
    Check.same("the halt", 1, x.step(1));
    Check.same("over", 2, x.look(0));
  }

  @Says("It is OVER at HALT,")
  static void overAtHalt() {
    for (int checked = 0; checked < 2; checked++) {
      Subject x = new Subject().halt().addNumber(2, 2, 1);
      x.start(checked == 1, 0, 0);
      Check.same("goes on", 1, x.look(0));
      Check.same("the halt is a step", 1, x.step(5));
      Check.same("over", 2, x.look(0));
      Check.same("no more steps", 0, x.step(5));
      Check.same("nothing more done", 0, x.register(2));
      Check.same("still over", 2, x.look(0));
    }
  }

  @Says("or when it would go on behind the last instruction;")
  static void overBehindTheLastInstruction() {
    for (int operation : new int[] {0, 1, 2, 3, 4, 5, 6, 7, 8, 9, 10, 11, 12, 13}) {
      Subject x = new Subject().set(2, 1).with(operation, 2, operation == 10 ? 2 : 3, 4, 0);
      x.start(false, 0, 0);
      Check.same("two steps", 2, x.step(2));
      Check.same("over behind " + operation, 2, x.look(0));
      Check.same("the last one done", 1, x.look(1));
      Check.same("no more steps", 0, x.step(2));
    }
  }

  @Says("or when it would go on behind the last instruction;")
  static void notOverWhenTheLastGoesOnElsewhere() {
    Subject x = new Subject().addNumber(2, 2, 1).goIfLess(2, 0, 0);
    x.start(false, 2, 0);
    x.step(2);
    Check.same("goes on", 1, x.look(0));
    Check.same("at the first", 0, x.look(1));
    Check.same("the rest", 2, x.step(100));
    Check.same("over", 2, x.look(0));
    Check.same("at the last", 1, x.look(1));
  }

  @Says("or when it would go on behind the last instruction;")
  static void notOverAtACheckAheadOfTheLast() {
    Subject x = new Subject().free(2);
    x.start(true, 0, 0);
    Check.same("the check", 1, x.step(1));
    Check.same("goes on", 1, x.look(0));
    Check.same("at the free", 1, x.look(1));
    Check.same("the free", 1, x.step(1));
    Check.same("over", 2, x.look(0));
    Check.same("still at the free", 1, x.look(1));
  }
}
