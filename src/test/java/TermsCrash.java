/** Crashes, what a plain run may do, and what stays when there is no run. */
@Says("Terms")
final class TermsCrash {
  private static final int LEAST = Integer.MIN_VALUE;
  private static final int MOST = Integer.MAX_VALUE;

  private TermsCrash() {}

  @Says("CRASHED (plain) when four bytes or one are touched that are not in the heap,")
  static void crashedWhenNotInTheHeap() {
    int[] addresses = {
      LEAST, LEAST + 1, -600, -4, -3, -2, -1, 0, 1, 255, 507, 508, 509, 510, 511, 512, 513, MOST - 3, MOST - 2, MOST
    };
    for (int operation = 6; operation <= 9; operation++) {
      int width = operation == 7 || operation == 9 ? 4 : 1;
      for (int address : addresses) {
        boolean inside = address >= 0 && address <= 512 - width;
        for (int k : new int[] {0, 9, -9}) {
          Subject x = new Subject().set(2, 5).with(operation, 2, 0, 1, k).set(3, 6);
          x.start(false, address - k, -1);
          String what = operation + " at " + address;
          Check.same(what + ": steps", inside ? 3 : 2, x.step(9));
          Check.same(what, inside ? 2 : 4, x.look(0));
          Check.same(what + ": where", inside ? 2 : 1, x.look(1));
          Check.same(what + ": no more steps", 0, x.step(9));
          Check.same(what + ": nothing behind it was done", inside ? 6 : 0, x.register(3));
          Check.same(what + ": r", inside && operation <= 7 ? 0 : 5, x.register(2));
          Check.state(what + ": no report", () -> x.report(0));
        }
      }
    }
  }

  @Says("CRASHED (plain) when four bytes or one are touched that are not in the heap,")
  static void whatCrashesStoresNothing() {
    for (String touch : new String[] {"p-1", "P-1", "P-3", "P509", "P511", "p512"}) {
      int[] bytes = Seen.heap(() -> Scenario.plain(touch));
      for (int address = 0; address < 512; address++) {
        Check.same(touch + ": byte " + address, 0, bytes[address]);
      }
    }
  }

  @Says("or a wrong address is freed.")
  static void crashedWhenAWrongAddressIsFreed() {
    for (int address : new int[] {LEAST, -8, -1, 1, 7, 9, 16, 24, 32, 40, 48, 56, 504, 511, 512, 520, MOST}) {
      Subject x = new Subject();
      Scenario.write(x, "a13 a8 f40 f" + address + " a1");
      x.start(false, 0, 0);
      Check.same("f" + address + ": steps", 10, x.step(100));
      Check.same("f" + address + ": crashed", 4, x.look(0));
      Check.same("f" + address + ": where", 9, x.look(1));
      Check.same("f" + address + ": printed", "8 40", Seen.printed(x));
      Check.state("f" + address + ": no report", () -> x.report(0));
    }
    Check.same("f0", 2, Scenario.plain("a13 a8 f40 f0 a1").look(0));
    Check.same("f8", 2, Scenario.plain("a13 a8 f40 f8 a1").look(0));
  }

  @Says("Plain, everything in the heap may be touched.")
  static void plainEverythingInTheHeapMayBeTouched() {
    for (int address = 0; address < 512; address++) {
      String bytes = "a13 a8 f40 g" + address + " p" + address;
      Subject x = Scenario.plain(bytes);
      Check.same(bytes, 2, x.look(0));
      Check.same(bytes + ": stored", 255, x.heap(address));
      Check.same(bytes + ": shadow", "-1 0 5 -1 -1 -2 -1", Seen.shadow(x));
    }
    for (int address = 0; address <= 508; address++) {
      String four = "a13 a8 f40 P" + address + " G" + address;
      Subject x = Scenario.plain(four);
      Check.same(four, 2, x.look(0));
      Check.same(four + ": loaded", -1, x.register(6));
    }
  }

  @Says("(When there is no run any more, heap and shadow stay as they are.)")
  static void withoutARunHeapAndShadowStay() {
    String steps = "a13 p8 p20 a40 f40 a8";
    int[] before = Seen.heap(() -> Scenario.checked(steps));
    String shadow = Seen.shadow(Scenario.checked(steps));
    int[] coded = Seen.heap(() -> Scenario.checked(steps).halt());
    int[] cleared = Seen.heap(() -> cleared(Scenario.checked(steps)));
    int[] both = Seen.heap(() -> cleared(Scenario.checked(steps)).halt());
    for (int address = 0; address < 512; address++) {
      Check.same("byte " + address + " before", address == 8 || address == 20 ? 255 : 0, before[address]);
      Check.same("byte " + address + " after code", before[address], coded[address]);
      Check.same("byte " + address + " after clear", before[address], cleared[address]);
      Check.same("byte " + address + " after both", before[address], both[address]);
    }
    Check.same("shadow before", "-1 0 5 -1 -1 -2 -2 -2 -2 -2 -1 -1 0 -1", shadow);
    Check.same("shadow after code", shadow, Seen.shadow(Scenario.checked(steps).halt()));
    Check.same("shadow after clear", shadow, Seen.shadow(cleared(Scenario.checked(steps))));
    Check.same("shadow after both", shadow, Seen.shadow(cleared(Scenario.checked(steps)).halt()));
  }

  private static Subject cleared(Subject x) {
    x.clear();
    return x;
  }
}
