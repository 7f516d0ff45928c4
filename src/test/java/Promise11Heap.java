@Says("Promise 11: heap")
final class Promise11Heap {
  private Promise11Heap() {}

  @Says("A byte of the heap.")
  static void aByteOfTheHeap() {
    int[] bytes = Seen.heap(Promise11Heap::counted);
    for (int address = 0; address < 512; address++) {
      Check.same("byte " + address, address * 7 & 255, bytes[address]);
    }
    Check.same("without a run", 511 * 7 & 255, counted().halt().heap(511));
    Check.same("new", 0, new Subject().heap(0));
    Check.same("new", 0, new Subject().heap(511));
  }

  /** Stores seven times its address in each byte; two rounds of 1000 steps, four for each byte. */
  private static Subject counted() {
    Subject x = new Subject().storeByte(2, 0, 3).addNumber(2, 2, 1).addNumber(3, 3, 7).goIfLess(2, 0, 0);
    x.run(false, 512, 0);
    x.step(1000);
    x.step(1000);
    Check.same("over", 2, x.look(0));
    return x;
  }

  @Says("IndexOutOfBoundsException: no address.")
  static void noAddress() {
    for (int address : new int[] {-1, 512, 513, -512, Integer.MIN_VALUE, Integer.MAX_VALUE}) {
      Check.bounds("no run, heap " + address, () -> new Subject().heap(address));
      Check.bounds("a run, heap " + address, () -> Scenario.plain("a8").heap(address));
    }
  }
}
