/** What the document says ahead of its terms. */
@Says("What it is")
final class WhatItIs {
  private WhatItIs() {}

  @Says("An object is used for at most 512 calls after it has been made; what later calls answer is free.")
  static void the512thCallIsAnsweredAsTheFirst() {
    Subject x = new Subject().set(2, 24).allocate(3, 2).storeByte(3, 5, 2).free(3).goIfZero(7, 0);
    x.start(true, 0, 0);
    while (x.callsLeft() > 3) {
      Check.same("step", 1000, x.step(1000));
    }
    Check.same("the 510th call", 1, x.look(0));
    Check.same("the 511th call", 24, x.register(2));
    Check.bounds("the 512th call", () -> x.printed(0));
  }

  @Says("An object is used for at most 512 calls after it has been made; what later calls answer is free.")
  static void instructionsAndRunsOverAllCalls() {
    Subject x = new Subject();
    while (x.callsLeft() >= 50) {
      x.clear();
      for (int i = 0; i < 40; i++) {
        Check.same("number", i, x.code(13, 2, 2, 0, i));
      }
      x.run(true, 0, 0);
      Check.same("sum", 780, x.register(2));
    }
  }
}
