/** What it is to touch. */
@Says("Terms")
final class TermsTouch {
  private static final String WRONG =
      "TO TOUCH n bytes at an address is WRONG if one of them is not in the heap or may not be touched.";

  private TermsTouch() {}

  @Says(WRONG)
  static void oneByteThatMayNotBeTouched() {
    for (String touch : new String[] {"g", "p"}) {
      Scenario.dueReport("a13 " + touch + "7", "1 7 4");
      Scenario.dueOver("a13 " + touch + "8");
      Scenario.dueOver("a13 " + touch + "20");
      Scenario.dueReport("a13 " + touch + "21", "1 21 4");
    }
  }

  @Says(WRONG)
  static void eachOfFourBytesThatMayNotBeTouched() {
    for (String touch : new String[] {"G", "P"}) {
      for (int address = 4; address < 8; address++) {
        Scenario.dueReport("a13 " + touch + address, "1 " + address + " 4");
      }
      for (int address = 8; address <= 17; address++) {
        Scenario.dueOver("a13 " + touch + address);
      }
      for (int address = 18; address <= 21; address++) {
        Scenario.dueReport("a13 " + touch + address, "1 21 4");
      }
      for (int address = 13; address <= 16; address++) {
        Scenario.dueReport("a8 " + touch + address, "1 16 4");
      }
      Scenario.dueReport("a3 " + touch + "8", "1 11 4");
      Scenario.dueOver("a4 " + touch + "8");
    }
  }

  @Says(WRONG)
  static void oneByteThatIsNotInTheHeap() {
    for (String touch : new String[] {"g", "p"}) {
      for (int address : new int[] {-1, 512}) {
        Check.same(touch + address, 4, Scenario.plain(touch + address).look(0));
        Scenario.dueReport(touch + address, "5 " + address + " 1");
      }
      for (int address : new int[] {0, 511}) {
        Check.same(touch + address, 2, Scenario.plain(touch + address).look(0));
      }
    }
  }

  @Says(WRONG)
  static void eachOfFourBytesThatIsNotInTheHeap() {
    for (String touch : new String[] {"G", "P"}) {
      for (int address : new int[] {-4, -3, -2, -1, 509, 510, 511, 512}) {
        Check.same(touch + address, 4, Scenario.plain(touch + address).look(0));
      }
      for (int address : new int[] {0, 508}) {
        Check.same(touch + address, 2, Scenario.plain(touch + address).look(0));
      }
    }
  }
}
