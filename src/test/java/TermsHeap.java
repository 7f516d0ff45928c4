/** The heap, its shadow, blocks and gaps. */
@Says("Terms")
final class TermsHeap {
  private static final int LEAST = Integer.MIN_VALUE;
  private static final int MOST = Integer.MAX_VALUE;

  private TermsHeap() {}

  @Says("The HEAP has 512 BYTES (0 .. 255), at ADDRESSES 0 .. 511,")
  static void bytesOf0To255AtAddresses0To511() {
    for (int address : new int[] {0, 1, 7, 8, 255, 256, 510, 511}) {
      for (int value : new int[] {0, 1, 127, 128, 255, 256, 511, -1, -128, -256, -257, LEAST, MOST}) {
        Subject x = new Subject().storeByte(0, 0, 1).loadByte(2, 0, 0).run(false, address, value);
        Check.same("over at " + address, 2, x.look(0));
        Check.same("byte " + value + " at " + address, value & 255, x.heap(address));
        Check.same("byte " + value + " loaded from " + address, value & 255, x.register(2));
      }
    }
    for (int address : new int[] {-1, 512, LEAST, MOST}) {
      Check.bounds("heap(" + address + ")", () -> new Subject().heap(address));
    }
  }

  @Says("and a SHADOW of 64 numbers: number k is of the bytes 8 * k to 8 * k + 7:")
  static void eachNumberOfTheShadowIsOfEightBytes() {
    String steps = "a100 a13 a100 a8 a40 a1 f280 f304";
    Subject x = Scenario.checked(steps);
    for (int k = 0; k < 64; k++) {
      int number = x.shadow(k);
      for (int i = 0; i < 8; i++) {
        boolean may = number == 0 || i < number;
        Subject touched = Scenario.checked(steps + " g" + (8 * k + i));
        Check.same("byte " + i + " under number " + k, may ? 2 : 3, touched.look(0));
      }
    }
    Check.same("the last number of a full heap", -1, Scenario.plain("a100 a100 a100 a100 a16").shadow(63));
    for (int k : new int[] {-1, 64, LEAST, MOST}) {
      Check.bounds("shadow(" + k + ")", () -> new Subject().shadow(k));
    }
  }

  @Says("0: all eight may be touched;")
  static void underZeroAllEightMayBeTouched() {
    for (int n : new int[] {8, 16, 96}) {
      Check.same("last number of " + n, 0, Scenario.plain("a" + n).shadow(n / 8));
      for (int address = 8; address < 8 + n; address++) {
        Scenario.dueOver("a" + n + " g" + address + " p" + address);
      }
    }
  }

  @Says("1 .. 7: the first so many;")
  static void underOneToSevenTheFirstSoMany() {
    for (int n = 1; n <= 7; n++) {
      Check.same("number of " + n, n, Scenario.plain("a" + n).shadow(1));
      for (int i = 0; i < 8; i++) {
        Subject x = Scenario.checked("a" + n + " p" + (8 + i));
        Check.same("byte " + i + " of " + n, i < n ? 2 : 3, x.look(0));
      }
    }
  }

  @Says("-1 RED; -2 FREED; -3 WILD.")
  static void underMinusOneToMinusThreeNone() {
    String steps = "a8 a8 f32";
    Scenario.dueShadow(steps, "-1 0 -1 -1 -2 -1");
    for (int i = 0; i < 8; i++) {
      Scenario.dueReport(steps + " g" + i, "1 " + i + " 9");
      Scenario.dueReport(steps + " g" + (16 + i), "1 " + (16 + i) + " 9");
      Scenario.dueReport(steps + " p" + (32 + i), "2 " + (32 + i) + " 9");
      Scenario.dueReport(steps + " p" + (48 + i), "3 " + (48 + i) + " 9");
      Scenario.dueReport(steps + " g" + (504 + i), "3 " + (504 + i) + " 9");
    }
  }

  @Says("At first all bytes are 0, all is WILD.")
  static void atFirstAllZeroAndWild() {
    int[] bytes = Seen.heap(Subject::new);
    for (int address = 0; address < 512; address++) {
      Check.same("byte " + address, 0, bytes[address]);
    }
    Subject x = new Subject();
    for (int k = 0; k < 64; k++) {
      Check.same("shadow " + k, -3, x.shadow(k));
    }
  }

  @Says("A BLOCK of n bytes, 1 .. 100, has a BODY of n, rounded up to a multiple of 8, with 8 bytes"
      + " ahead of it and 8 behind; its address is that of its body.")
  static void aBlockHasItsBodyAndEightBytesOnBothSides() {
    for (int n = 1; n <= 100; n++) {
      int rounded = n % 8 == 0 ? n : n - n % 8 + 8;
      Scenario.due("a" + n + " a1 a" + n, "8 " + (rounded + 24) + " " + (rounded + 48), 3, 0);
    }
  }

  @Says("All else is GAPS.")
  static void whatIsInNoBlockIsOneGapWithItsNeighbours() {
    // The block of 80 bytes is released: with the 72 behind it it takes one of 120.
    Scenario.due("a100 a100 a100 a64 f368 a100", "8 128 248 368 368", 4, 0);
    // Two blocks of 24 bytes are released, in either order, the others wait: one gap of 48.
    Scenario.due("a8 a8 a24 a100 f8 f32 f96 f56 a32", "8 32 56 96 8", 1, 2);
    Scenario.due("a8 a8 a24 a100 f32 f8 f96 f56 a32", "8 32 56 96 8", 1, 2);
    Scenario.due("a8 a8 a24 a100 f8 f32 f96 f56 a33", "8 32 56 96 216", 1, 2);
    // What a smaller block leaves of a gap is a gap.
    Scenario.due("a100 a100 a100 f8 f128 a40 a48 a1", "8 128 248 8 64 368", 4, 1);
  }
}
