/** Reports. */
@Says("Terms")
final class TermsReport {
  private static final int LEAST = Integer.MIN_VALUE;
  private static final int MOST = Integer.MAX_VALUE;
  /** Leaves the shadow -1 0 5 -1 -1 -2 -1; what is done next is instruction 9. */
  private static final String BLOCKS = "a13 a8 f40";

  private TermsReport() {}

  @Says("REPORTED at a check that fails:")
  static void reportedAtACheckThatFails() {
    for (String wrong : new String[] {"g7", "G18", "p21", "P6", "f16", "f40", "g512"}) {
      Subject x = new Subject();
      Scenario.write(x, BLOCKS + " " + wrong + " a1");
      x.start(true, Scenario.STORED, 0);
      Check.same(wrong + ": steps", 11, x.step(11));
      Check.same(wrong + ": at the check", 10, x.look(1));
      Check.same(wrong + ": reported", 3, x.look(0));
      Check.same(wrong + ": no more steps", 0, x.step(5));
      Check.same(wrong + ": where", 10, x.look(1));
      Check.same(wrong + ": nothing behind it was done", 2, x.look(2));
      Check.same(wrong + ": shadow", "-1 0 5 -1 -1 -2 -1", Seen.shadow(x));
    }
    for (String wrong : new String[] {"p7", "p21", "P6", "P18", "p40", "P70"}) {
      int[] bytes = Seen.heap(() -> Scenario.checked(BLOCKS + " " + wrong));
      for (int address = 0; address < 512; address++) {
        Check.same(wrong + ": byte " + address, 0, bytes[address]);
      }
    }
  }

  @Says("REPORTED at a check that fails:")
  static void notReportedPlainOrAtACheckThatHolds() {
    Check.same("plain", 2, Scenario.plain(BLOCKS + " g7 G40").look(0));
    Check.same("a check that holds", 2, Scenario.checked(BLOCKS + " g8 G17 p20 P8 f0 f8").look(0));
    Check.state("no report", () -> Scenario.plain(BLOCKS + " g7").report(0));
    Check.state("no report", () -> Scenario.checked(BLOCKS + " g8").report(0));
  }

  @Says("the report has the KIND (1 RED, or behind the first ones that may be touched;")
  static void kind1RedOrBehindTheFirst() {
    for (int address : new int[] {0, 1, 7, 21, 22, 23, 24, 31, 32, 39, 48, 55}) {
      Scenario.dueReport(BLOCKS + " g" + address, "1 " + address + " 9");
    }
  }

  @Says("2 FREED;")
  static void kind2Freed() {
    for (int address = 40; address < 48; address++) {
      Scenario.dueReport(BLOCKS + " p" + address, "2 " + address + " 9");
    }
    // The bytes behind the first ones too, once the block is freed.
    Scenario.dueReport("a13 f8 g22", "2 22 6");
  }

  @Says("3 WILD;")
  static void kind3Wild() {
    for (int address : new int[] {56, 63, 64, 256, 504, 511}) {
      Scenario.dueReport(BLOCKS + " g" + address, "3 " + address + " 9");
    }
    Scenario.dueReport("g0", "3 0 1");
    // What was released, its red zones included.
    for (int address : new int[] {0, 8, 39, 40, 47}) {
      Scenario.dueReport("a32 a100 f8 f56 g" + address, "3 " + address + " 11");
    }
    Scenario.dueReport("a32 a100 f8 f56 g48", "1 48 11");
  }

  @Says("4 a wrong address freed;")
  static void kind4AWrongAddressFreed() {
    for (int address : new int[] {LEAST, -8, -1, 1, 7, 9, 16, 21, 24, 32, 40, 48, 56, 64, 504, 511, 512, 520, MOST}) {
      Scenario.dueReport(BLOCKS + " f" + address, "4 " + address + " 9");
    }
  }

  @Says("5 not in the heap, that of the first byte that is wrong),")
  static void kind5NotInTheHeap() {
    for (int address : new int[] {LEAST + 3, LEAST + 4, -512, -5, -4, -3, -2, -1, 512, 513, 1000, MOST - 3, MOST - 2, MOST}) {
      for (String touch : new String[] {"g", "G", "p", "P"}) {
        Scenario.dueReport(BLOCKS + " " + touch + address, "5 " + address + " 9");
      }
    }
    Check.same("the least", "5 " + LEAST + " 0",
        Seen.report(new Subject().loadInt(2, 0, 0).run(true, LEAST, 0)));
  }

  @Says("5 not in the heap, that of the first byte that is wrong),")
  static void theKindIsThatOfTheFirstWrongByte() {
    Scenario.dueReport(BLOCKS + " G38", "1 38 9");
    Scenario.dueReport(BLOCKS + " G46", "2 46 9");
    Scenario.dueReport(BLOCKS + " G54", "1 54 9");
    Scenario.dueReport(BLOCKS + " P20", "1 21 9");
    Scenario.dueReport(BLOCKS + " G509", "3 509 9");
    Scenario.dueReport(BLOCKS + " P511", "3 511 9");
    Scenario.dueReport("a100 a100 a100 a100 a16 G510", "1 510 16");
    // A body that is freed between red zones.
    Scenario.dueReport("a16 f8 P5", "1 5 6");
    Scenario.dueReport("a16 f8 P22", "2 22 6");
  }

  @Says("its ADDRESS (the one freed, or of that byte),")
  static void theAddressOfTheFirstWrongByteOrTheOneFreed() {
    for (String touch : new String[] {"G", "P"}) {
      Scenario.dueReport(BLOCKS + " " + touch + "18", "1 21 9");
      Scenario.dueReport(BLOCKS + " " + touch + "19", "1 21 9");
      Scenario.dueReport(BLOCKS + " " + touch + "20", "1 21 9");
      Scenario.dueReport(BLOCKS + " " + touch + "21", "1 21 9");
      Scenario.dueReport(BLOCKS + " " + touch + "5", "1 5 9");
      Scenario.dueReport(BLOCKS + " " + touch + "7", "1 7 9");
      Scenario.dueReport("a8 " + touch + "13", "1 16 4");
    }
    Scenario.dueReport(BLOCKS + " f41", "4 41 9");
    Scenario.dueReport(BLOCKS + " f-3", "4 -3 9");
  }

  @Says("and the INSTRUCTION of the program that was checked for.")
  static void theInstructionThatWasCheckedFor() {
    for (int i = 0; i < 38; i++) {
      Subject x = new Subject().set(2, 8).allocate(3, 2);
      for (int j = 0; j < 38; j++) {
        int address = j == i ? 4 : 3;
        x.code(6 + j % 4, 5, address, 0, 0);
      }
      x.run(true, 0, 0);
      Check.same("instruction", i + 2, x.report(2));
      Check.same("its check", 2 + 2 * i, x.look(1));
    }
  }
}
