@Says("Promise 9: register")
final class Promise09Register {
  private Promise09Register() {}

  @Says("A register;")
  static void aRegister() {
    Subject x = new Subject();
    for (int r = 0; r < 8; r++) {
      x.set(r, 100 - r);
    }
    x.start(false, 5, 6);
    Check.same("x", 5, x.register(0));
    Check.same("y", 6, x.register(1));
    x.step(1000);
    for (int r = 0; r < 8; r++) {
      Check.same("register " + r + " when over", 100 - r, x.register(r));
    }
    Check.same("when reported", 8, Scenario.checked("a8 f8 g8").register(6));
    Check.same("when crashed", 8, Scenario.plain("a8 f8 f8").register(6));
  }

  @Says("0 if there is no run.")
  static void withoutARun() {
    Subject coded = new Subject().set(2, 5).set(7, 6).run(false, 3, 4).halt();
    Subject cleared = new Subject().set(2, 5).set(7, 6).run(true, 3, 4);
    cleared.clear();
    for (int r = 0; r < 8; r++) {
      Check.same("new, register " + r, 0, new Subject().register(r));
      Check.same("behind code, register " + r, 0, coded.register(r));
      Check.same("behind clear, register " + r, 0, cleared.register(r));
    }
  }

  @Says("IllegalArgumentException: no register.")
  static void noRegister() {
    for (int r : new int[] {-1, 8, 9, Integer.MIN_VALUE, Integer.MAX_VALUE}) {
      Check.argument("no run, register " + r, () -> new Subject().register(r));
      Check.argument("a run, register " + r, () -> Scenario.plain("a8").register(r));
    }
  }
}
