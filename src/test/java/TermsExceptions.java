import java.util.ArrayList;
import java.util.List;
import java.util.function.Consumer;
import java.util.function.Supplier;

/** Which exception of several is thrown, and that what throws changes nothing. */
@Says("Terms")
final class TermsExceptions {
  private static final int[] FAR = {-1, 2000, Integer.MIN_VALUE, Integer.MAX_VALUE};

  private TermsExceptions() {}

  private static Subject full() {
    Subject x = new Subject();
    for (int i = 0; i < 40; i++) {
      x.addNumber(2, 2, 1);
    }
    return x;
  }

  @Says("Of several exceptions that hold the first one listed is thrown;")
  static void ofCodeTheArgumentsBeforeTheRoom() {
    Subject x = full();
    for (int wrong : FAR) {
      Check.argument("full, operation " + wrong, () -> x.code(wrong, 0, 0, 0, 0));
      Check.argument("full, r " + wrong, () -> x.code(0, wrong, 0, 0, 0));
      Check.argument("full, a " + wrong, () -> x.code(0, 0, wrong, 0, 0));
      Check.argument("full, b " + wrong, () -> x.code(0, 0, 0, wrong, 0));
    }
    Check.argument("full, operation 15", () -> x.code(15, 0, 0, 0, 0));
    Check.argument("full, r 8", () -> x.code(14, 8, 0, 0, 0));
    Check.bounds("full", () -> x.code(14, 7, 7, 7, 0));
  }

  @Says("Of several exceptions that hold the first one listed is thrown;")
  static void ofRewrittenTheStateThenTheNumberThenTheWhat() {
    Subject outside = new Subject().goIfZero(0, 1);
    Subject fine = new Subject().free(0);
    Subject empty = new Subject();
    for (int wrong : FAR) {
      Check.state("outside, i " + wrong, () -> outside.rewritten(wrong, 0));
      Check.state("outside, what " + wrong, () -> outside.rewritten(0, wrong));
      Check.state("outside, both " + wrong, () -> outside.rewritten(wrong, wrong));
      Check.bounds("both " + wrong, () -> fine.rewritten(wrong, wrong));
      Check.bounds("i 2, what " + wrong, () -> fine.rewritten(2, wrong));
      Check.bounds("empty, what " + wrong, () -> empty.rewritten(0, wrong));
    }
    Check.bounds("i -1, what 3", () -> fine.rewritten(-1, 3));
  }

  @Says("Of several exceptions that hold the first one listed is thrown;")
  static void ofStepTheStateBeforeTheNumber() {
    for (int wrong : FAR) {
      Check.state("no program, n " + wrong, () -> new Subject().step(wrong));
      Check.state("no run, n " + wrong, () -> new Subject().halt().step(wrong));
    }
    Check.state("no run, n 1001", () -> new Subject().halt().step(1001));
  }

  @Says("Of several exceptions that hold the first one listed is thrown;")
  static void ofReportTheStateBeforeTheWhat() {
    for (int wrong : FAR) {
      Check.state("no run, what " + wrong, () -> new Subject().halt().report(wrong));
      Check.state("over, what " + wrong, () -> Scenario.checked("a8").report(wrong));
      Check.state("crashed, what " + wrong, () -> Scenario.plain("f1").report(wrong));
    }
    Check.state("no run, what 3", () -> new Subject().halt().report(3));
  }

  private static List<Supplier<Subject>> states() {
    List<Supplier<Subject>> states = new ArrayList<>();
    states.add(Subject::new);
    states.add(() -> new Subject().halt());
    states.add(() -> new Subject().halt().goIfZero(0, 2));
    states.add(() -> Scenario.checked("a8 p8 a8 f8").goIfZero(0, 40));
    states.add(TermsExceptions::fullAfterSevenSteps);
    states.add(() -> Scenario.checked("a8 p8 a8 f8 f0"));
    states.add(() -> Scenario.checked("a8 p8 a8 f8 p8"));
    states.add(() -> Scenario.plain("a8 p8 a8 f8 f8"));
    states.add(TermsExceptions::clearedAfterARun);
    return states;
  }

  private static Subject fullAfterSevenSteps() {
    Subject x = full();
    x.start(false, 3, 4);
    x.step(7);
    return x;
  }

  private static Subject clearedAfterARun() {
    Subject x = Scenario.plain("a8 p8 a8 f8 f8");
    x.clear();
    return x;
  }

  private static List<Consumer<Subject>> calls() {
    List<Consumer<Subject>> calls = new ArrayList<>();
    for (int wrong : FAR) {
      calls.add(x -> x.code(wrong, 0, 0, 0, 0));
      calls.add(x -> x.code(0, wrong, 0, 0, 0));
      calls.add(x -> x.code(0, 0, wrong, 0, 0));
      calls.add(x -> x.code(0, 0, 0, wrong, 0));
      calls.add(x -> x.rewritten(wrong, 0));
      calls.add(x -> x.rewritten(0, wrong));
      calls.add(x -> x.step(wrong));
      calls.add(x -> x.look(wrong));
      calls.add(x -> x.register(wrong));
      calls.add(x -> x.printed(wrong));
      calls.add(x -> x.heap(wrong));
      calls.add(x -> x.shadow(wrong));
      calls.add(x -> x.report(wrong));
    }
    return calls;
  }

  @Says("what throws changes nothing.")
  static void whatThrowsChangesNothing() {
    for (Supplier<Subject> state : states()) {
      String before = Seen.everything(state);
      Check.same("all that throws", before, Seen.everything(() -> {
        Subject x = state.get();
        for (Consumer<Subject> call : calls()) {
          Check.holds("a throw", throwing(x, call));
        }
        return x;
      }));
    }
  }

  private static boolean throwing(Subject x, Consumer<Subject> call) {
    try {
      call.accept(x);
      return false;
    } catch (IllegalStateException | IllegalArgumentException | IndexOutOfBoundsException e) {
      return true;
    }
  }

  @Says("what throws changes nothing.")
  static void aRefusedStartChangesNothing() {
    Supplier<Subject> outside = () -> Scenario.checked("a8 p8 a8 f8").goIfZero(0, 40);
    Supplier<Subject> empty = TermsExceptions::clearedAfterARun;
    for (Supplier<Subject> state : List.of(outside, empty)) {
      String before = Seen.everything(state);
      Check.same("a refused start", before, Seen.everything(() -> {
        Subject x = state.get();
        Check.state("start plain", () -> x.start(false, 5, 6));
        Check.state("start checked", () -> x.start(true, 5, 6));
        return x;
      }));
    }
    String before = Seen.everything(outside);
    Check.same("a refused rewrite", before, Seen.everything(() -> {
      Subject x = outside.get();
      Check.state("rewrite", x::rewrite);
      return x;
    }));
  }

  @Says("what throws changes nothing.")
  static void aFullProgramAndItsRunStay() {
    Check.same("the 41st", Seen.everything(TermsExceptions::fullAfterSevenSteps), Seen.everything(() -> {
      Subject x = fullAfterSevenSteps();
      Check.bounds("code", () -> x.code(14, 0, 0, 0, 0));
      return x;
    }));
    Subject x = fullAfterSevenSteps();
    Check.bounds("code", () -> x.code(14, 0, 0, 0, 0));
    Check.same("the run goes on to its end", 33, x.step(1000));
    Check.same("all were done", 40, x.register(2));
  }
}
