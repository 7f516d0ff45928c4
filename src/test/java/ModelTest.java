import java.util.ArrayList;
import java.util.List;
import java.util.Random;

/** Holds the program against the model: the same calls on both, drawn with a fixed seed. */
final class ModelTest {
  private static final int OBJECTS = 1500;
  private static final int CALLS = 300;
  private static final int[] ENDS = new int[5];

  private record Call(String text, Answer answer) {}

  private interface Answer {
    int of(Face x);
  }

  private final Random random;
  private final Model model = new Model();
  private final List<Call> made = new ArrayList<>();
  private Subject subject = new Subject();

  private ModelTest(long seed) {
    random = new Random(seed);
  }

  public static void main(String[] args) {
    for (int i = 0; i < OBJECTS && !Check.anyWrong(); i++) {
      Check.begin("seed " + i);
      new ModelTest(i).compare();
    }
    Check.begin("draws");
    for (int end = 1; end < ENDS.length; end++) {
      // Else the programs drawn are too tame to tell anything.
      Check.holds("many runs seen in state " + end, ENDS[end] > 300);
    }
    Check.end();
  }

  private void compare() {
    drawProgram();
    while (made.size() < CALLS && !Check.anyWrong()) {
      drawCall();
    }
    askAll();
  }

  private static String answer(Face x, Call call) {
    try {
      return "" + call.answer.of(x);
    } catch (RuntimeException e) {
      return e.getClass().getSimpleName();
    }
  }

  /** A call that was made stands among those that make the object anew. */
  private void make(String text, Answer answer) {
    Call call = new Call(text, answer);
    made.add(call);
    both(call);
  }

  private void both(Call call) {
    String due = answer(model, call);
    String got = answer(subject, call);
    if (!due.equals(got)) {
      for (Call earlier : made) {
        System.out.println(earlier.text);
      }
    }
    Check.same(call.text, due, got);
  }

  /** Asks without an end to the calls: the object is made anew when its calls are used up. */
  private void ask(String text, Answer answer) {
    if (subject.callsLeft() == 0) {
      subject = new Subject();
      for (Call call : made) {
        answer(subject, call);
      }
    }
    if (!Check.anyWrong()) {
      both(new Call(text, answer));
    }
  }

  private int below(int bound) {
    return random.nextInt(bound);
  }

  private int wildNumber() {
    return switch (below(6)) {
      case 0 -> Integer.MIN_VALUE + below(9);
      case 1 -> Integer.MAX_VALUE - below(9);
      case 2 -> -below(20);
      case 3 -> 500 + below(20);
      default -> below(70);
    };
  }

  private void drawProgram() {
    int size = 1 + below(40);
    for (int i = 0; i < size; i++) {
      drawInstruction(size);
    }
  }

  // Registers 2 to 4 hold addresses mostly, 5 to 7 sizes and values, so that programs get far.
  private void drawInstruction(int size) {
    int address = 2 + below(3);
    int value = 5 + below(3);
    switch (below(20)) {
      case 0, 1, 2 -> code(0, value, below(8), below(8), 1 + below(below(4) == 0 ? 110 : 40));
      case 3, 4, 5, 6, 7 -> code(4, address, value, below(8), below(8));
      case 8, 9, 10 -> code(5, below(8), address, below(8), below(8));
      case 11, 12 -> code(6 + below(2), value, address, below(8), below(12));
      case 13, 14 -> code(8 + below(2), below(8), address, value, below(12));
      case 15 -> code(10 + below(2), below(8), below(8), below(8), below(size));
      case 16 -> code(12, below(8), below(8), below(8), below(8));
      case 17 -> code(1 + below(3), value, below(8), below(8), below(8));
      case 18 -> code(13, below(8), below(8), below(8), below(24) - 8);
      default -> {
        if (below(6) == 0) {
          code(below(16), below(8), below(8), below(8), below(4) == 0 ? wildNumber() : below(size));
        } else {
          code(0, address, below(8), below(8), 0);
        }
      }
    }
  }

  private void code(int operation, int r, int a, int b, int k) {
    make("code(" + operation + ", " + r + ", " + a + ", " + b + ", " + k + ")", x -> x.code(operation, r, a, b, k));
  }

  private void clear() {
    make("clear()", x -> {
      x.clear();
      return 0;
    });
  }

  private void start() {
    boolean checked = below(2) == 0;
    int first = below(3) == 0 ? wildNumber() : below(100);
    int second = below(3) == 0 ? wildNumber() : below(100);
    make("start(" + checked + ", " + first + ", " + second + ")", x -> {
      x.start(checked, first, second);
      return 0;
    });
  }

  private void step(int n) {
    make("step(" + n + ")", x -> x.step(n));
    ENDS[model.look(0)]++;
  }

  private void drawCall() {
    int i = wildNumber();
    int what = below(9) - 1;
    switch (below(30)) {
      case 0 -> start();
      case 1 -> {
        if (below(20) == 0) {
          clear();
          drawProgram();
        }
      }
      case 2 -> {
        if (below(10) == 0) {
          code(below(18) - 1, below(10) - 1, below(8), below(9), wildNumber());
        }
      }
      case 3 -> make("rewrite()", Face::rewrite);
      case 4, 5 -> make("rewritten(" + i + ", " + what + ")", x -> x.rewritten(i, what));
      case 6, 7, 8, 9, 10, 11 -> step(below(12));
      case 12 -> step(below(8) == 0 ? wildNumber() : below(1003));
      case 13, 14, 15 -> make("look(" + what + ")", x -> x.look(what));
      case 16, 17 -> make("register(" + what + ")", x -> x.register(what));
      case 18 -> make("printed(" + i + ")", x -> x.printed(i));
      case 19, 20 -> make("heap(" + i + ")", x -> x.heap(i));
      case 21, 22, 23 -> make("shadow(" + i + ")", x -> x.shadow(i));
      case 24, 25 -> make("report(" + what + ")", x -> x.report(what));
      default -> { }
    }
  }

  private void askAll() {
    for (int i = -1; i < 513; i++) {
      int at = i;
      ask("heap(" + at + ")", x -> x.heap(at));
    }
    for (int i = -1; i < 83; i++) {
      int at = i;
      ask("shadow(" + at + ")", x -> x.shadow(at));
      ask("printed(" + at + ")", x -> x.printed(at));
      for (int what = -1; what < 4; what++) {
        int asked = what;
        ask("rewritten(" + at + ", " + asked + ")", x -> x.rewritten(at, asked));
      }
    }
    for (int i = -1; i < 10; i++) {
      int at = i;
      ask("look(" + at + ")", x -> x.look(at));
      ask("register(" + at + ")", x -> x.register(at));
      ask("report(" + at + ")", x -> x.report(at));
    }
  }
}
