/** What it is to free, and the quarantine. */
@Says("Terms")
final class TermsFree {
  private static final int LEAST = Integer.MIN_VALUE;
  private static final int MOST = Integer.MAX_VALUE;

  private TermsFree() {}

  @Says("TO FREE an address: 0: nothing.")
  static void toFree0DoesNothing() {
    Scenario.due("f0", "", 0, 0);
    Scenario.due("a9 f0 f0", "8", 1, 0);
    Scenario.dueShadow("a9 f0", "-1 0 1 -1");
    Scenario.due("a9 f8 f0 f0", "8", 0, 1);
    Scenario.dueShadow("a9 f8 f0", "-1 -2 -2 -1");
  }

  @Says("The address of a block that is not in quarantine: its body's shadow is FREED,")
  static void theBodyIsFreedAndTheRedStays() {
    for (int n = 1; n <= 100; n++) {
      StringBuilder freed = new StringBuilder("-1");
      for (int i = 0; i < (n + 7) / 8; i++) {
        freed.append(" -2");
      }
      Scenario.dueShadow("a" + n + " a4 f8", freed + " -1 -1 4 -1");
      Scenario.due("a" + n + " a4 f8", "8 " + (24 + (n + 7) / 8 * 8), 1, 1);
    }
    Scenario.dueShadow("a16 a4 f40", "-1 0 0 -1 -1 -2 -1");
    Scenario.due("a100 a100 a100 a100 a16 f488", "8 128 248 368 488", 4, 1);
  }

  @Says("it goes to the end of the quarantine;")
  static void itGoesToTheEndOfTheQuarantine() {
    String four = "a24 a24 a24 a24 a8";
    String blockOf40 = "-1 -2 -2 -2 -1";
    String gone = "-3 -3 -3 -3 -3";
    String last = " -1 -2 -1";
    Scenario.dueShadow(four + " f88 f8 f128 f48 f168",
        blockOf40 + " " + blockOf40 + " " + gone + " " + blockOf40 + last);
    Scenario.dueShadow(four + " f8 f48 f88 f128 f168",
        gone + " " + blockOf40 + " " + blockOf40 + " " + blockOf40 + last);
    Scenario.dueShadow(four + " f128 f88 f48 f8 f168",
        blockOf40 + " " + blockOf40 + " " + blockOf40 + " " + gone + last);
    // A block where one was before is a new one: it waits behind those that were freed meanwhile.
    Scenario.dueShadow("a24 a100 a100 f8 f48 f168 a24 f8", blockOf40 + " "
        + "-3 -3 -3 -3 -3 -3 -3 -3 -3 -3 -3 -3 -3 -3 -3 "
        + "-1 -2 -2 -2 -2 -2 -2 -2 -2 -2 -2 -2 -2 -2 -1");
  }

  @Says("as long as the blocks there have more than 160 bytes together (with what is ahead and behind),"
      + " the oldest one is RELEASED:")
  static void upTo160BytesWait() {
    Scenario.due("a100 a24 f8 f128", "8 128", 0, 2);
    Scenario.due("a100 a25 f8 f128", "8 128", 0, 1);
    Scenario.due("a24 a24 a24 a24 f8 f48 f88 f128", "8 48 88 128", 0, 4);
    Scenario.due("a24 a24 a24 a32 f8 f48 f88 f128", "8 48 88 128", 0, 3);
    Scenario.due("a1 a1 a1 a1 a1 a1 f8 f32 f56 f80 f104 f128", "8 32 56 80 104 128", 0, 6);
    Scenario.due("a1 a1 a1 a1 a1 a1 a1 f8 f32 f56 f80 f104 f128 f152", "8 32 56 80 104 128 152", 0, 6);
  }

  @Says("as long as the blocks there have more than 160 bytes together (with what is ahead and behind),"
      + " the oldest one is RELEASED:")
  static void asManyAsItTakesAreReleased() {
    // 160 bytes wait and 120 come: three of 40 go, then it is 160 again.
    Scenario.due("a24 a24 a24 a24 a100 f8 f48 f88 f128 f168", "8 48 88 128 168", 0, 2);
    // 160 bytes wait and 24 come: one of 40 goes.
    Scenario.due("a24 a24 a24 a24 a8 f8 f48 f88 f128 f168", "8 48 88 128 168", 0, 4);
    // The largest block that there is waits by itself.
    Scenario.due("a100 a100 f8 f128", "8 128", 0, 1);
    Check.same("the last one freed waits", -2, Scenario.plain("a100 a100 f8 f128").shadow(16));
    // What was released to allocate counts no more.
    Scenario.due("a100 a100 a100 a100 a16 f8 a100 f128 f488", "8 128 248 368 488 8", 3, 2);
  }

  @Says("all of it is WILD and a gap")
  static void theReleasedIsWildAndAGap() {
    Scenario.dueShadow("a32 a100 f8 f56",
        "-3 -3 -3 -3 -3 -3 -1 -2 -2 -2 -2 -2 -2 -2 -2 -2 -2 -2 -2 -2 -1");
    Scenario.due("a32 a100 f8 f56 a32", "8 56 8", 1, 1);
    Scenario.due("a32 a100 f8 f56 a33", "8 56 176", 1, 1);
    Scenario.due("a32 a100 f8 f56 a8 a8", "8 56 8 32", 2, 1);
  }

  @Says("(the bytes stay).")
  static void theBytesStay() {
    int[] freed = Seen.heap(() -> Scenario.plain("a32 P8 P36 f8"));
    int[] released = Seen.heap(() -> Scenario.onFilledHeap("a32 a100 P8 P36 f8 f56"));
    int[] releasedInVain = Seen.heap(() -> Scenario.plain("a100 a100 a100 a100 a16 P488 p503 f488 a17"));
    Check.same("the quarantine is empty", 0, Scenario.plain("a100 a100 a100 a100 a16 P488 p503 f488 a17").look(4));
    for (int address = 0; address < 512; address++) {
      boolean stored = address >= 8 && address < 12 || address >= 36 && address < 40;
      Check.same("freed, byte " + address, stored ? 255 : 0, freed[address]);
      boolean body = address >= 8 && address < 40 || address >= 56 && address < 160;
      Check.same("released, byte " + address, stored || !body ? 255 : 0, released[address]);
      Check.same("released in vain, byte " + address,
          address >= 488 && address < 492 || address == 503 ? 255 : 0, releasedInVain[address]);
    }
  }

  @Says("Any other address: WRONG.")
  static void anyOtherAddressIsWrong() {
    // Blocks at 8 (13 bytes) and 40 (freed); all behind 64 is a gap.
    int[] wrong = {
      LEAST, LEAST + 8, -512, -8, -1, 1, 4, 7, 9, 12, 15, 16, 20, 21, 23, 24, 31, 32, 39, 40, 41, 48, 56, 64, 72,
      256, 264, 504, 511, 512, 520, MOST - 7, MOST
    };
    for (int address : wrong) {
      String steps = "a13 a8 f40 f" + address;
      Subject plain = Scenario.plain(steps);
      Check.same(steps + ": crashed", 4, plain.look(0));
      Check.same(steps + ": blocks", 1, plain.look(3));
      Check.same(steps + ": in quarantine", 1, plain.look(4));
      Check.same(steps + ": shadow", "-1 0 5 -1 -1 -2 -1", Seen.shadow(plain));
      Scenario.dueReport(steps, "4 " + address + " 9");
    }
    Scenario.due("a13 a8 f40 f8", "8 40", 0, 2);
  }

  @Says("Any other address: WRONG.")
  static void wrongOnceReleasedUntilAllocatedAgain() {
    Scenario.dueReport("a24 a100 a100 f8 f48 f168 f8", "4 8 16");
    Check.same("plain", 4, Scenario.plain("a24 a100 a100 f8 f48 f168 f8").look(0));
    Scenario.due("a24 a100 a100 f8 f48 f168 a24 f8", "8 48 168 8", 0, 2);
    // A larger block lies over where the second one was: its address is inside now.
    Scenario.dueReport("a8 a8 a100 a100 f8 f32 f56 f176 a32 f32", "4 32 24");
  }
}
