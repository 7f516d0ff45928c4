/** What it is to allocate. */
@Says("Terms")
final class TermsAllocate {
  private static final String FULL = "a100 a100 a100 a100 a16";

  private TermsAllocate() {}

  @Says("TO ALLOCATE n: if n is not 1 .. 100,")
  static void anotherNumberThan1To100Answers0() {
    for (int n : new int[] {0, -1, -8, 101, 104, 105, 512, Integer.MIN_VALUE, Integer.MAX_VALUE}) {
      Scenario.due("a" + n, "0", 0, 0);
      Scenario.due("a40 f8 a1 a" + n, "8 64 0", 1, 1);
      Scenario.dueShadow("a40 f8 a1 a" + n, "-1 -2 -2 -2 -2 -2 -1 -1 1 -1");
    }
    Scenario.due("a1 a100", "8 32", 2, 0);
  }

  @Says("TO ALLOCATE n: if n is not 1 .. 100,")
  static void aNumberThatIsRefusedReleasesNothing() {
    for (int n : new int[] {0, -1, 101, Integer.MIN_VALUE, Integer.MAX_VALUE}) {
      Scenario.due(FULL + " f8 a" + n, "8 128 248 368 488 0", 4, 1);
      Check.same("still in quarantine", -2, Scenario.plain(FULL + " f8 a" + n).shadow(1));
    }
  }

  @Says("or there is no gap that it fits into")
  static void aFullHeapAnswers0() {
    Scenario.due(FULL + " a1 a100", "8 128 248 368 488 0 0", 5, 0);
    Scenario.due("a100 a100 a100 a100 a17", "8 128 248 368 0", 4, 0);
    Scenario.due("a100 a100 a100 a100 a100 a1 a1", "8 128 248 368 0 488 0", 5, 0);
    Check.same("the shadow stays", Seen.shadow(Scenario.plain(FULL)), Seen.shadow(Scenario.plain(FULL + " a1")));
  }

  @Says("(also after all blocks in QUARANTINE have been RELEASED,")
  static void allAreReleasedInVain() {
    String steps = "a24 a24 a24 a100 a100 a100 f8 f88 a40";
    Scenario.due(steps, "8 48 88 128 248 368 0", 4, 0);
    Subject x = Scenario.checked(steps);
    for (int k = 0; k < 15; k++) {
      Check.same("shadow " + k, k < 5 || k >= 10 ? -3 : k == 5 || k == 9 ? -1 : 0, x.shadow(k));
    }
    Scenario.due(FULL + " f488 a17", "8 128 248 368 488 0", 4, 0);
    Scenario.due(FULL + " f488 a16", "8 128 248 368 488 488", 5, 0);
  }

  @Says("one after the other, the oldest first,")
  static void theOldestIsReleasedFirst() {
    String all = "a24 a24 a24 a100 a100 a100 a16";
    String printed = "8 48 88 128 248 368 488 ";
    Scenario.due(all + " f88 f8 f48 a24", printed + "88", 5, 2);
    Scenario.due(all + " f48 f8 f88 a24", printed + "48", 5, 2);
    Scenario.due(all + " f8 f48 f88 a24", printed + "8", 5, 2);
    // Behind a release the next one is the oldest.
    Scenario.due(all + " f88 f8 f48 a24 a24", printed + "88 8", 6, 1);
    Scenario.due(all + " f88 f8 f48 a24 a24 a24", printed + "88 8 48", 7, 0);
  }

  @Says("as long as there is none): the answer is 0.")
  static void noMoreAreReleasedThanItTakes() {
    String all = "a24 a24 a24 a100 a100 a100 a16";
    String printed = "8 48 88 128 248 368 488 ";
    Scenario.due(all + " f88 f48 f8 a25", printed + "48", 5, 1);
    Scenario.due(all + " f88 f8 f48 a25", printed + "8", 5, 0);
    Scenario.due(all + " f48 f8 f88 a24", printed + "48", 5, 2);
    // A gap is there: none is released.
    Scenario.due("a24 a24 a24 a100 a100 a100 f8 a16", "8 48 88 128 248 368 488", 6, 1);
    Scenario.due("a24 f8 a24", "8 48", 1, 1);
  }

  @Says("Otherwise it begins where the lowest gap begins that it fits into:")
  static void theLowestGapThatItFitsInto() {
    // 24, 120, 24 and 56 bytes; the first two are released by what is freed behind them.
    String steps = "a1 a100 a1 a40 f8 f32 f152";
    Scenario.due(steps + " a1", "8 32 152 176 8", 2, 2);
    Scenario.due("a1 a100 a1 a40 f8 f32 f152 a9", "8 32 152 176 232", 2, 2);
    // Gaps of 56, 40 and 120 bytes and the rest: the second one fits best, but the first one is lower.
    Scenario.due("a40 a1 a24 a1 a100 a100 f8 f88 f152 f272 a24", "8 64 88 128 152 272 8", 3, 1);
    // The lower one is too small by eight bytes; or by none.
    Scenario.due("a24 a1 a100 a100 f8 f72 f192 a25", "8 48 72 192 72", 2, 1);
    Scenario.due("a24 a1 a100 a100 f8 f72 f192 a24", "8 48 72 192 8", 2, 1);
  }

  @Says("Otherwise it begins where the lowest gap begins that it fits into:")
  static void upToTheLastByteOfTheHeap() {
    Scenario.due("a100 a100 a100 a100 a16", "8 128 248 368 488", 5, 0);
    Scenario.due("a100 a100 a100 a100 a9", "8 128 248 368 488", 5, 0);
    Scenario.due("a100 a100 a100 a100 a8 a1", "8 128 248 368 488 0", 5, 0);
    Check.same("the last eight bytes are red", -1, Scenario.checked("a100 a100 a100 a100 a16").shadow(63));
    Check.same("the last eight bytes are wild", -3, Scenario.checked("a100 a100 a100 a100 a8").shadow(63));
  }

  @Says("8 bytes RED, the body with 0, the last eight of it with n % 8 if that is not 0, then 8 RED;")
  static void theShadowOfABlock() {
    for (int n = 1; n <= 100; n++) {
      StringBuilder shadow = new StringBuilder("-1 3 -1 -1");
      for (int whole = 0; whole < n / 8; whole++) {
        shadow.append(" 0");
      }
      shadow.append(n % 8 == 0 ? "" : " " + n % 8).append(" -1");
      Scenario.dueShadow("a3 a" + n, shadow.toString());
    }
  }

  @Says("the body's bytes become 0;")
  static void theBodyBecomesZeroAndNothingElse() {
    for (int n : new int[] {1, 7, 8, 9, 16, 97, 100}) {
      int bodyEnd = 8 + (n + 7) / 8 * 8;
      int[] bytes = Seen.heap(() -> Scenario.onFilledHeap("a" + n));
      for (int address = 0; address < 512; address++) {
        Check.same("byte " + address + " of " + n, address >= 8 && address < bodyEnd ? 0 : 255, bytes[address]);
      }
    }
    // Also where a block was before.
    int[] again = Seen.heap(() -> Scenario.plain("a100 P8 P104 P108 a100 f8 f128 a96"));
    Check.same("inside the new body", 0, again[8]);
    Check.same("its end", 255, again[104]);
    Check.same("behind it", 255, again[108]);
  }

  @Says("the answer is its address.")
  static void theAnswerIsTheAddress() {
    Scenario.due("a8 a8 a100 a1", "8 32 56 176", 4, 0);
    Subject x = new Subject().set(2, 20).set(3, 77).allocate(3, 2).allocate(2, 2).run(true, 0, 0);
    Check.same("r", 8, x.register(3));
    Check.same("r that was a", 48, x.register(2));
    Subject none = new Subject().set(3, 77).allocate(3, 2).run(false, 0, 0);
    Check.same("r when the answer is 0", 0, none.register(3));
  }
}
