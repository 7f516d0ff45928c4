/** Promises 11 and 12, and what allocating and freeing do to the heap and its shadow. */
final class HeapTest {
  private HeapTest() {}

  public static void main(String[] args) {
    heapAndShadowRefuse();
    everySize();
    sizesRefused();
    bodyBecomesZero();
    lowestGapThatFits();
    gapsJoin();
    exactFit();
    quarantineLimit();
    releasedOnlyAsLongAsNeeded();
    allReleasedInVain();
    freedTwice();
    quarantineOfEachRun();
    Check.end();
  }

  /** Does one instruction after another in a plain run of steps that were given as text. */
  private static ShadowHeap run(boolean checked, String steps) {
    ShadowHeap x = new ShadowHeap();
    for (String step : steps.trim().split(" +")) {
      int value = Integer.parseInt(step.substring(1));
      if (step.charAt(0) == 'a') {
        x.code(0, 7, 0, 0, value);
        x.code(4, 6, 7, 0, 0);
        x.code(12, 0, 6, 0, 0);
      } else {
        x.code(0, 7, 0, 0, value);
        x.code(5, 0, 7, 0, 0);
      }
    }
    x.start(checked, 0, 0);
    x.step(1000);
    return x;
  }

  private static String printed(ShadowHeap x) {
    StringBuilder all = new StringBuilder();
    for (int i = 0; i < x.look(2); i++) {
      all.append(i == 0 ? "" : " ").append(x.printed(i));
    }
    return all.toString();
  }

  private static void due(String steps, String addresses, int live, int waiting) {
    for (int checked = 0; checked < 2; checked++) {
      ShadowHeap x = run(checked == 1, steps);
      Check.same(steps + ": over", 2, x.look(0));
      Check.same(steps + ": addresses", addresses, printed(x));
      Check.same(steps + ": live", live, x.look(3));
      Check.same(steps + ": waiting", waiting, x.look(4));
    }
  }

  private static void heapAndShadowRefuse() {
    ShadowHeap x = new ShadowHeap();
    for (int wrong : new int[] {-1, 512, 513, Integer.MIN_VALUE, Integer.MAX_VALUE}) {
      Check.bounds("heap", "" + wrong, () -> x.heap(wrong));
      Check.bounds("shadow", "" + wrong, () -> x.shadow(wrong));
    }
    Check.bounds("shadow", "64", () -> x.shadow(64));
    Check.same("heap 511", 0, x.heap(511));
    Check.same("shadow 63", -3, x.shadow(63));
  }

  private static void everySize() {
    for (int n = 1; n <= 100; n++) {
      ShadowHeap x = run(n % 2 == 0, "a" + n + " a1");
      int body = (n + 7) / 8;
      Check.same("address", 8, x.printed(0));
      Check.same("address of the next", 8 * (body + 3), x.printed(1));
      StringBuilder shadow = new StringBuilder("-1");
      for (int i = 1; i < body; i++) {
        shadow.append(" 0");
      }
      Check.same("shadow of " + n, shadow + " " + n % 8 + " -1 -1 1 -1", Seen.shadowOf(x));
    }
  }

  private static void sizesRefused() {
    for (int n : new int[] {0, -1, 101, Integer.MIN_VALUE, Integer.MAX_VALUE}) {
      due("a1 f8 a" + n, "8 0", 0, 1);
    }
    // A number that is refused releases nothing, however full the heap is.
    due("a100 a100 a100 a100 f8 a101", "8 128 248 368 0", 3, 1);
  }

  private static void bodyBecomesZero() {
    ShadowHeap x = new ShadowHeap();
    x.code(0, 3, 0, 0, -1);
    x.code(9, 0, 2, 3, 0);
    x.code(13, 2, 2, 0, 4);
    x.code(11, 0, 2, 0, 1);
    x.code(0, 4, 0, 0, 9);
    x.code(4, 5, 4, 0, 0);
    x.code(5, 0, 5, 0, 0);
    x.start(false, 512, 0);
    x.step(1000);
    Check.same("over", 2, x.look(0));
    for (int address = 0; address < 512; address++) {
      Check.same("heap " + address, address >= 8 && address < 24 ? 0 : 255, x.heap(address));
    }

    ShadowHeap kept = new ShadowHeap();
    kept.code(0, 2, 0, 0, 100);
    kept.code(4, 3, 2, 0, 0);
    kept.code(8, 0, 3, 2, 99);
    kept.code(8, 0, 3, 2, 0);
    kept.code(5, 0, 3, 0, 0);
    kept.code(4, 4, 2, 0, 0);
    kept.code(5, 0, 4, 0, 0);
    kept.code(0, 2, 0, 0, 1);
    kept.code(4, 5, 2, 0, 0);
    kept.start(true, 0, 0);
    kept.step(11);
    Check.same("released", -3, kept.shadow(0));
    Check.same("the bytes stay when released", 100, kept.heap(107));
    kept.step(100);
    Check.same("first gap", 8, kept.register(5));
    Check.same("outside the new body", 100, kept.heap(107));
    Check.same("inside", 0, kept.heap(8));
  }

  private static void lowestGapThatFits() {
    // Blocks of 24, 120, 24, 56 bytes; the first three go, the first two released by the others.
    due("a1 a100 a1 a40 f8 f32 f152 a60 a1", "8 32 152 176 232 8", 3, 2);
    due("a1 a100 a8 a100 a8 f32 f176 a16 a100", "8 32 152 176 296 32 320", 5, 1);
  }

  private static void gapsJoin() {
    // The two blocks of 24 bytes are released, the others wait: a gap of 48, and one behind all.
    due("a8 a8 a24 a100 f8 f32 f96 f56 a32", "8 32 56 96 8", 1, 2);
    due("a8 a8 a24 a100 f32 f8 f96 f56 a32", "8 32 56 96 8", 1, 2);
    due("a8 a8 a24 a100 f8 f32 f96 f56 a33", "8 32 56 96 216", 1, 2);
    due("a8 a8 a100 a100 f32 f8 f56 f176 a32", "8 32 56 176 8", 1, 1);
  }

  private static void exactFit() {
    due("a100 a100 a100 a100 a16 a1", "8 128 248 368 488 0", 5, 0);
    due("a100 a100 a100 a100 a17 a9", "8 128 248 368 0 488", 5, 0);
    ShadowHeap x = run(true, "a100 a100 a100 a100 a16");
    Check.same("last of the shadow", -1, x.shadow(63));
    Check.same("the body before it", 0, x.shadow(62));
  }

  private static void quarantineLimit() {
    // 160 bytes together stay, more do not: 40 * 4, then 24 more.
    due("a24 a24 a24 a24 a1 f8 f48 f88 f128", "8 48 88 128 168", 1, 4);
    due("a24 a24 a24 a24 a1 f8 f48 f88 f128 f168", "8 48 88 128 168", 0, 4);
    due("a24 a24 a24 a24 a100 f8 f48 f88 f128 f168", "8 48 88 128 168", 0, 2);
    ShadowHeap x = run(true, "a24 a24 a24 a24 a1 f88 f8 f128 f48 f168");
    Check.same("the oldest is wild",
        "-1 -2 -2 -2 -1 -1 -2 -2 -2 -1 -3 -3 -3 -3 -3 -1 -2 -2 -2 -1 -1 -2 -1", Seen.shadowOf(x));
  }

  private static void releasedOnlyAsLongAsNeeded() {
    due("a24 a24 a24 a100 a100 a100 a16 f88 f8 f48 a24", "8 48 88 128 248 368 488 88", 5, 2);
    due("a24 a24 a24 a100 a100 a100 a16 f88 f8 f48 a25", "8 48 88 128 248 368 488 8", 5, 0);
    due("a24 a24 a24 a100 a100 a100 a16 f88 f48 f8 a25", "8 48 88 128 248 368 488 48", 5, 1);
    due("a24 a24 a24 a100 a100 a100 f8 a1", "8 48 88 128 248 368 488", 6, 1);
  }

  private static void allReleasedInVain() {
    due("a24 a24 a24 a100 a100 a100 f8 f88 a40", "8 48 88 128 248 368 0", 4, 0);
    ShadowHeap x = run(true, "a24 a24 a24 a100 a100 a100 f8 f88 a40");
    Check.same("first released", -3, x.shadow(0));
    Check.same("third released", -3, x.shadow(14));
    Check.same("second stays", -1, x.shadow(5));
  }

  private static void freedTwice() {
    ShadowHeap plain = run(false, "a9 f8 f8");
    Check.same("plain crashes", 4, plain.look(0));
    Check.same("in quarantine once", 1, plain.look(4));
    ShadowHeap checked = run(true, "a9 f8 f8");
    Check.same("checked reports", "4 8 6", Seen.report(checked));
    Check.same("at the check", 7, checked.look(1));
    ShadowHeap gone = run(true, "a24 a100 a100 f8 f48 f168 f8");
    Check.same("one that was released", "4 8 16", Seen.report(gone));
    due("a24 a100 a100 f8 f48 f168 a24 f8", "8 48 168 8", 0, 2);
  }

  private static void quarantineOfEachRun() {
    ShadowHeap x = run(true, "a24 a24 a24 a24 f8 f48 f88 f128");
    for (int round = 0; round < 3; round++) {
      Check.same("four wait", 4, x.look(4));
      Check.same("none is released", -2, x.shadow(1));
      x.start(round == 1, 0, 0);
      Check.same("none waits", 0, x.look(4));
      x.step(1000);
    }
  }
}
