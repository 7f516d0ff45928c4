@Says("Promise 12: shadow")
final class Promise12Shadow {
  private Promise12Shadow() {}

  @Says("A number of the shadow.")
  static void aNumberOfTheShadow() {
    Subject x = Scenario.checked("a13 a8 f40");
    int[] due = {-1, 0, 5, -1, -1, -2, -1, -3};
    for (int k = 0; k < 64; k++) {
      Check.same("number " + k, k < due.length ? due[k] : -3, x.shadow(k));
    }
    Check.same("new", -3, new Subject().shadow(0));
    Check.same("new", -3, new Subject().shadow(63));
    Check.same("without a run", 5, Scenario.plain("a13").halt().shadow(2));
  }

  @Says("A number of the shadow.")
  static void plainRunsHaveItToo() {
    Scenario.dueShadow("a13 a8 f40", "-1 0 5 -1 -1 -2 -1");
  }

  @Says("IndexOutOfBoundsException: none.")
  static void none() {
    for (int k : new int[] {-1, 64, 65, 511, Integer.MIN_VALUE, Integer.MAX_VALUE}) {
      Check.bounds("no run, shadow " + k, () -> new Subject().shadow(k));
      Check.bounds("a run, shadow " + k, () -> Scenario.plain("a8").shadow(k));
    }
  }
}
