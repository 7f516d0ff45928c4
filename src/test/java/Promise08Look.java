@Says("Promise 8: look")
final class Promise08Look {
  private Promise08Look() {}

  @Says("what 0: 0 no run, 1 it goes on, 2 OVER, 3 REPORTED, 4 CRASHED;")
  static void what0HowItGoes() {
    Subject x = new Subject();
    Check.same("new", 0, x.look(0));
    x.loadByte(2, 0, 0);
    Check.same("not started", 0, x.look(0));
    x.start(false, 0, 0);
    Check.same("goes on", 1, x.look(0));
    x.step(0);
    Check.same("still goes on", 1, x.look(0));
    x.step(1);
    Check.same("over", 2, x.look(0));
    x.start(true, 0, 0);
    Check.same("goes on", 1, x.look(0));
    x.step(1);
    Check.same("reported", 3, x.look(0));
    x.start(false, 512, 0);
    x.step(1);
    Check.same("crashed", 4, x.look(0));
    x.halt();
    Check.same("no run", 0, x.look(0));
  }

  @Says("1 where it is (the number in what is run;")
  static void what1TheNumberInWhatIsRun() {
    Subject x = new Subject().free(7).goIfZero(7, 3).halt().free(7).set(2, 1).goIfZero(7, 0);
    int[] plain = {0, 1, 3, 4, 5, 0, 1, 3};
    x.start(false, 0, 0);
    for (int due : plain) {
      Check.same("plain", due, x.look(1));
      x.step(1);
    }
    int[] rewritten = {0, 1, 2, 4, 5, 6, 7, 0, 1, 2, 4};
    x.start(true, 0, 0);
    for (int due : rewritten) {
      Check.same("rewritten", due, x.look(1));
      x.step(1);
    }
  }

  @Says("of a run that has ended that of the last one done);")
  static void what1TheLastOneDone() {
    Subject halt = new Subject().free(7).halt().set(2, 1);
    Check.same("plain halt", 1, halt.run(false, 0, 0).look(1));
    Check.same("rewritten halt", 2, halt.run(true, 0, 0).look(1));
    Subject behind = new Subject().free(7).free(7);
    Check.same("plain, behind the last", 1, behind.run(false, 0, 0).look(1));
    Check.same("rewritten, behind the last", 3, behind.run(true, 0, 0).look(1));
    Subject jump = new Subject().goIfZero(7, 2).halt().goIfLess(7, 7, 0);
    Check.same("a last one that does not go elsewhere", 2, jump.run(false, 0, 0).look(1));
    Subject wrong = new Subject().free(7).set(2, 1).free(0).halt();
    Check.same("crashed", 2, wrong.run(false, 5, 0).look(1));
    Check.same("reported", 3, wrong.run(true, 5, 0).look(1));
    Check.same("reported, asked again", 3, wrong.look(1));
  }

  @Says("2 how many were printed;")
  static void what2HowManyWerePrinted() {
    Subject x = TermsProgram.printing();
    x.start(false, 0, 0);
    Check.same("none", 0, x.look(2));
    x.step(1);
    Check.same("one", 1, x.look(2));
    x.step(59 * 3);
    Check.same("60", 60, x.look(2));
    x.step(3);
    Check.same("those that are lost were not printed", 60, x.look(2));
    Check.same("over", 2, Scenario.plain("a8 a8").look(2));
    Check.same("reported", 2, Scenario.checked("a8 a8 g7").look(2));
    Check.same("crashed", 2, Scenario.plain("a8 a8 f7").look(2));
  }

  @Says("3 how many blocks there are that are not in quarantine,")
  static void what3BlocksNotInQuarantine() {
    Check.same("none", 0, Scenario.plain("a0").look(3));
    Check.same("one", 1, Scenario.plain("a8").look(3));
    Check.same("refused ones are none", 1, Scenario.plain("a8 a101 a0").look(3));
    Check.same("freed ones are not", 1, Scenario.checked("a8 a8 f8").look(3));
    Check.same("nor are released ones", 1, Scenario.checked("a100 a100 a8 f8 f128").look(3));
    Check.same("again in its place", 2, Scenario.checked("a100 a100 a8 f8 f128 a100").look(3));
    // 21 blocks of 24 bytes fill the heap but for eight.
    Subject x = new Subject().set(2, 1).allocate(3, 2).goIfLess(7, 3, 1).run(false, 0, 0);
    Check.same("as many as there can be", 21, x.look(3));
  }

  @Says("4 that are;")
  static void what4BlocksInQuarantine() {
    Check.same("none", 0, Scenario.plain("a8").look(4));
    Check.same("one", 1, Scenario.plain("a8 f8").look(4));
    Check.same("0 is none", 1, Scenario.plain("a8 f8 f0").look(4));
    Check.same("released ones are not", 1, Scenario.checked("a100 a100 f8 f128").look(4));
    Check.same("released to allocate", 0, Scenario.checked("a100 a100 a100 a100 f8 a100").look(4));
    Check.same("a crash leaves them", 1, Scenario.plain("a8 f8 f8").look(4));
    Check.same("a report leaves them", 1, Scenario.checked("a8 f8 f8").look(4));
    Check.same("six of 24 bytes", 6, Scenario.checked("a1 a1 a1 a1 a1 a1 f8 f32 f56 f80 f104 f128").look(4));
  }

  @Says("5 how many instructions there are.")
  static void what5Instructions() {
    Subject x = new Subject();
    for (int i = 0; i < 40; i++) {
      Check.same("instructions", i, x.look(5));
      x.free(7);
    }
    Check.same("40", 40, x.look(5));
    x.start(true, 0, 0);
    Check.same("not lines", 40, x.look(5));
    x.clear();
    Check.same("cleared", 0, x.look(5));
  }

  @Says("(1 .. 4: 0 if there is no run.)")
  static void withoutARun() {
    Subject x = Scenario.checked("a8 a8 f8 g7");
    for (int what = 1; what <= 4; what++) {
      Check.holds("look " + what + " with a run", x.look(what) > 0);
    }
    x.halt();
    for (int what = 0; what <= 4; what++) {
      Check.same("look " + what + " behind code", 0, x.look(what));
    }
    Check.same("instructions", 11, x.look(5));
    Subject cleared = Scenario.checked("a8 a8 f8 g7");
    cleared.clear();
    for (int what = 0; what <= 5; what++) {
      Check.same("look " + what + " behind clear", 0, cleared.look(what));
    }
  }

  @Says("IllegalArgumentException: another what.")
  static void anotherWhat() {
    for (int what : new int[] {-1, 6, 7, Integer.MIN_VALUE, Integer.MAX_VALUE}) {
      Check.argument("no run, what " + what, () -> new Subject().look(what));
      Check.argument("a run, what " + what, () -> Scenario.plain("a8").look(what));
    }
  }
}
