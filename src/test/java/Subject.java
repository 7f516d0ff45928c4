/**
 * A ShadowHeap that counts its calls, as nothing is promised behind the 512th, and that takes
 * instructions by name. What an instruction does not use is filled with what would show if it did.
 */
final class Subject implements Face {
  static final int MOST_CALLS = 512;
  private static final int UNUSED_REGISTER = 7;
  private static final int UNUSED_NUMBER = 1000;

  private final ShadowHeap heap = new ShadowHeap();
  private int calls = 0;

  private ShadowHeap called() {
    if (calls == MOST_CALLS) {
      throw new AssertionError("a test makes more than 512 calls on one object");
    }
    calls++;
    return heap;
  }

  int callsLeft() {
    return MOST_CALLS - calls;
  }

  Subject set(int r, int k) {
    return with(0, r, UNUSED_REGISTER, UNUSED_REGISTER, k);
  }

  Subject add(int r, int a, int b) {
    return with(1, r, a, b, UNUSED_NUMBER);
  }

  Subject subtract(int r, int a, int b) {
    return with(2, r, a, b, UNUSED_NUMBER);
  }

  Subject multiply(int r, int a, int b) {
    return with(3, r, a, b, UNUSED_NUMBER);
  }

  Subject allocate(int r, int a) {
    return with(4, r, a, UNUSED_REGISTER, UNUSED_NUMBER);
  }

  Subject free(int a) {
    return with(5, UNUSED_REGISTER, a, UNUSED_REGISTER, UNUSED_NUMBER);
  }

  Subject loadByte(int r, int a, int k) {
    return with(6, r, a, UNUSED_REGISTER, k);
  }

  Subject loadInt(int r, int a, int k) {
    return with(7, r, a, UNUSED_REGISTER, k);
  }

  Subject storeByte(int a, int k, int b) {
    return with(8, UNUSED_REGISTER, a, b, k);
  }

  Subject storeInt(int a, int k, int b) {
    return with(9, UNUSED_REGISTER, a, b, k);
  }

  Subject goIfZero(int a, int k) {
    return with(10, UNUSED_REGISTER, a, UNUSED_REGISTER, k);
  }

  Subject goIfLess(int a, int b, int k) {
    return with(11, UNUSED_REGISTER, a, b, k);
  }

  Subject print(int a) {
    return with(12, UNUSED_REGISTER, a, UNUSED_REGISTER, UNUSED_NUMBER);
  }

  Subject addNumber(int r, int a, int k) {
    return with(13, r, a, UNUSED_REGISTER, k);
  }

  Subject halt() {
    return with(14, UNUSED_REGISTER, UNUSED_REGISTER, UNUSED_REGISTER, UNUSED_NUMBER);
  }

  Subject with(int operation, int r, int a, int b, int k) {
    code(operation, r, a, b, k);
    return this;
  }

  /** Begins a run and lets it do up to 1000 steps. */
  Subject run(boolean checked, int x, int y) {
    start(checked, x, y);
    step(1000);
    return this;
  }

  @Override
  public int code(int operation, int r, int a, int b, int k) {
    return called().code(operation, r, a, b, k);
  }

  @Override
  public void clear() {
    called().clear();
  }

  @Override
  public int rewrite() {
    return called().rewrite();
  }

  @Override
  public int rewritten(int i, int what) {
    return called().rewritten(i, what);
  }

  @Override
  public void start(boolean checked, int x, int y) {
    called().start(checked, x, y);
  }

  @Override
  public int step(int n) {
    return called().step(n);
  }

  @Override
  public int look(int what) {
    return called().look(what);
  }

  @Override
  public int register(int r) {
    return called().register(r);
  }

  @Override
  public int printed(int i) {
    return called().printed(i);
  }

  @Override
  public int heap(int address) {
    return called().heap(address);
  }

  @Override
  public int shadow(int k) {
    return called().shadow(k);
  }

  @Override
  public int report(int what) {
    return called().report(what);
  }
}
