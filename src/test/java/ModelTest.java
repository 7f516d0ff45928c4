import java.util.Random;

/** Holds the program against the model: the same calls on both, chosen by a fixed seed. */
final class ModelTest {
  private static final int OBJECTS = 1500;
  private static final int CALLS = 300;

  private final Random random;
  private final ShadowHeap heap = new ShadowHeap();
  private final Model model = new Model();
  private final StringBuilder history = new StringBuilder();
  private static final int[] ENDS = new int[5];

  private ModelTest(long seed) {
    random = new Random(seed);
  }

  public static void main(String[] args) {
    for (int i = 0; i < OBJECTS && !Check.anyWrong(); i++) {
      new ModelTest(i).compare();
    }
    for (int end = 1; end < ENDS.length; end++) {
      // Else the programs drawn are too tame to tell anything.
      Check.same("runs seen in state " + end, 1, ENDS[end] > 300 ? 1 : 0);
    }
    Check.end();
  }

  interface Answer {
    long of();
  }

  private static String answer(Answer call) {
    try {
      return "" + call.of();
    } catch (RuntimeException e) {
      return e.getClass().getSimpleName();
    }
  }

  private void both(String call, Answer ofHeap, Answer ofModel) {
    String due = answer(ofModel);
    String got = answer(ofHeap);
    history.append(call).append(" = ").append(due).append('\n');
    if (!due.equals(got)) {
      System.out.println(history);
    }
    Check.same(call, due, got);
  }

  private void compare() {
    drawProgram();
    for (int i = 0; i < CALLS && !Check.anyWrong(); i++) {
      drawCall();
    }
    compareAll();
  }

  private int below(int bound) {
    return random.nextInt(bound);
  }

  private int wildNumber() {
    return switch (below(6)) {
      case 0 -> Integer.MIN_VALUE + below(9);
      case 1 -> Integer.MAX_VALUE - below(9);
      case 2 -> -below(20);
      case 3 -> 500 + below(20);
      default -> below(70);
    };
  }

  private void drawProgram() {
    int size = 1 + below(40);
    for (int i = 0; i < size; i++) {
      drawInstruction(size);
    }
  }

  // Registers 2 to 4 hold addresses mostly, 5 to 7 sizes and values, so that programs get far.
  private void drawInstruction(int size) {
    int address = 2 + below(3);
    int value = 5 + below(3);
    switch (below(20)) {
      case 0, 1, 2 -> code(0, value, below(8), below(8), 1 + below(below(4) == 0 ? 110 : 40));
      case 3, 4, 5, 6, 7 -> code(4, address, value, below(8), below(8));
      case 8, 9, 10 -> code(5, below(8), address, below(8), below(8));
      case 11, 12 -> code(6 + below(2), value, address, below(8), below(12));
      case 13, 14 -> code(8 + below(2), below(8), address, value, below(12));
      case 15 -> code(10 + below(2), below(8), below(8), below(8), below(size));
      case 16 -> code(12, below(8), below(8), below(8), below(8));
      case 17 -> code(1 + below(3), value, below(8), below(8), below(8));
      case 18 -> code(13, below(8), below(8), below(8), below(24) - 8);
      default -> {
        if (below(6) == 0) {
          code(below(16), below(8), below(8), below(8), below(4) == 0 ? wildNumber() : below(size));
        } else {
          code(0, address, below(8), below(8), 0);
        }
      }
    }
  }

  private void code(int operation, int r, int a, int b, int k) {
    both("code(" + operation + ", " + r + ", " + a + ", " + b + ", " + k + ")",
        () -> heap.code(operation, r, a, b, k), () -> model.code(operation, r, a, b, k));
  }

  private void start() {
    boolean checked = below(2) == 0;
    int x = below(3) == 0 ? wildNumber() : below(100);
    int y = below(3) == 0 ? wildNumber() : below(100);
    both("start(" + checked + ", " + x + ", " + y + ")",
        () -> { heap.start(checked, x, y); return 0; },
        () -> { model.start(checked, x, y); return 0; });
  }

  private void drawCall() {
    int i = wildNumber();
    int what = below(9) - 1;
    switch (below(30)) {
      case 0 -> start();
      case 1 -> {
        if (below(20) == 0) {
          heap.clear();
          model.clear();
          drawProgram();
        }
      }
      case 2 -> {
        if (below(10) == 0) {
          code(below(18) - 1, below(10) - 1, below(8), below(9), wildNumber());
        }
      }
      case 3 -> both("rewrite()", heap::rewrite, model::rewrite);
      case 4, 5 -> both("rewritten(" + i + ", " + what + ")", () -> heap.rewritten(i, what), () -> model.rewritten(i, what));
      case 6, 7, 8, 9, 10, 11 -> step(below(12));
      case 12 -> step(below(8) == 0 ? wildNumber() : below(1003));
      case 13, 14, 15 -> both("look(" + what + ")", () -> heap.look(what), () -> model.look(what));
      case 16, 17 -> both("register(" + what + ")", () -> heap.register(what), () -> model.register(what));
      case 18 -> both("printed(" + i + ")", () -> heap.printed(i), () -> model.printed(i));
      case 19, 20 -> both("heap(" + i + ")", () -> heap.heap(i), () -> model.heap(i));
      case 21, 22, 23 -> both("shadow(" + i + ")", () -> heap.shadow(i), () -> model.shadow(i));
      case 24, 25 -> both("report(" + what + ")", () -> heap.report(what), () -> model.report(what));
      default -> {
        if (below(20) == 0) {
          compareAll();
        }
      }
    }
  }

  private void step(int n) {
    both("step(" + n + ")", () -> heap.step(n), () -> model.step(n));
    ENDS[model.look(0)]++;
  }

  private void compareAll() {
    for (int i = -1; i < 513 && !Check.anyWrong(); i++) {
      int at = i;
      both("heap(" + at + ")", () -> heap.heap(at), () -> model.heap(at));
    }
    for (int i = -1; i < 83 && !Check.anyWrong(); i++) {
      int at = i;
      both("shadow(" + at + ")", () -> heap.shadow(at), () -> model.shadow(at));
      both("printed(" + at + ")", () -> heap.printed(at), () -> model.printed(at));
      for (int what = -1; what < 4; what++) {
        int asked = what;
        both("rewritten(" + at + ", " + asked + ")", () -> heap.rewritten(at, asked), () -> model.rewritten(at, asked));
      }
    }
    for (int i = -1; i < 10 && !Check.anyWrong(); i++) {
      int at = i;
      both("look(" + at + ")", () -> heap.look(at), () -> model.look(at));
      both("register(" + at + ")", () -> heap.register(at), () -> model.register(at));
      both("report(" + at + ")", () -> heap.report(at), () -> model.report(at));
    }
  }
}
