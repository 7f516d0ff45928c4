/**
 * A run of a program that a short text tells: a24 allocates 24 and prints the answer, f8 frees
 * address 8, g8 and G8 load the byte and the four bytes at 8, p8 and P8 store them from register 0.
 */
final class Scenario {
  /** What register 0 holds: as a byte 255. */
  static final int STORED = -1;

  private Scenario() {}

  static Subject plain(String steps) {
    return run(false, steps);
  }

  static Subject checked(String steps) {
    return run(true, steps);
  }

  static Subject run(boolean checked, String steps) {
    Subject x = new Subject();
    write(x, steps);
    return x.run(checked, STORED, 0);
  }

  /** The same in a plain run that first stores 255 in all of the heap, which a checked run may not. */
  static Subject onFilledHeap(String steps) {
    Subject x = new Subject();
    x.storeInt(2, 0, 0).addNumber(2, 2, 4).goIfLess(2, 1, 0);
    write(x, steps);
    return x.run(false, STORED, 512);
  }

  static void write(Subject x, String steps) {
    for (String step : steps.trim().split(" +")) {
      int value = Integer.parseInt(step.substring(1));
      char letter = step.charAt(0);
      x.set(5, letter == 'a' || letter == 'f' ? value : value - 3);
      switch (letter) {
        case 'a' -> x.allocate(6, 5).print(6);
        case 'f' -> x.free(5);
        case 'g' -> x.loadByte(6, 5, 3);
        case 'G' -> x.loadInt(6, 5, 3);
        case 'p' -> x.storeByte(5, 3, 0);
        case 'P' -> x.storeInt(5, 3, 0);
        default -> throw new AssertionError("no such step: " + step);
      }
    }
  }

  /** Plain and checked, the run gets over with these addresses printed and so many blocks of both sorts. */
  static void due(String steps, String addresses, int live, int waiting) {
    for (int checked = 0; checked < 2; checked++) {
      Subject x = run(checked == 1, steps);
      Check.same(steps + ": over", 2, x.look(0));
      Check.same(steps + ": addresses", addresses, Seen.printed(x));
      Check.same(steps + ": blocks not in quarantine", live, x.look(3));
      Check.same(steps + ": blocks in quarantine", waiting, x.look(4));
    }
  }

  /** Plain and checked, the run gets over and leaves this shadow, up to the last number that is not WILD. */
  static void dueShadow(String steps, String shadow) {
    for (int checked = 0; checked < 2; checked++) {
      Subject x = run(checked == 1, steps);
      Check.same(steps + ": over", 2, x.look(0));
      Check.same(steps + ": shadow", shadow, Seen.shadow(x));
    }
  }

  /** Checked, the run ends with this report: kind, address, instruction. */
  static void dueReport(String steps, String report) {
    Subject x = checked(steps);
    Check.same(steps + ": reported", 3, x.look(0));
    Check.same(steps + ": report", report, Seen.report(x));
  }

  /** Checked, the run gets over. */
  static void dueOver(String steps) {
    Check.same(steps + ": over", 2, checked(steps).look(0));
  }
}
