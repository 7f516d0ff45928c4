import java.util.function.Supplier;

/** What can be seen of an object, as text. */
final class Seen {
  private Seen() {}

  /** All that there is to be seen, to tell whether a call has changed anything. */
  static String everything(Supplier<Subject> recipe) {
    Again again = new Again(recipe);
    StringBuilder all = new StringBuilder();
    for (int what = 0; what <= 5; what++) {
      all.append(again.subject().look(what)).append(' ');
    }
    for (int r = 0; r < 8; r++) {
      all.append(again.subject().register(r)).append(' ');
    }
    int prints = again.subject().look(2);
    for (int i = 0; i < prints; i++) {
      all.append(again.subject().printed(i)).append(' ');
    }
    for (int address = 0; address < 512; address++) {
      all.append(again.subject().heap(address)).append(' ');
    }
    for (int k = 0; k < 64; k++) {
      all.append(again.subject().shadow(k)).append(' ');
    }
    if (again.subject().look(0) == 3) {
      all.append(report(recipe.get()));
    }
    return all.append(rewritten(recipe.get())).toString();
  }

  static int[] heap(Supplier<Subject> recipe) {
    Again again = new Again(recipe);
    int[] bytes = new int[512];
    for (int address = 0; address < bytes.length; address++) {
      bytes[address] = again.subject().heap(address);
    }
    return bytes;
  }

  static String printed(Subject x) {
    StringBuilder all = new StringBuilder();
    int prints = x.look(2);
    for (int i = 0; i < prints; i++) {
      all.append(i == 0 ? "" : " ").append(x.printed(i));
    }
    return all.toString();
  }

  /** The shadow up to the last number that is not WILD. */
  static String shadow(Subject x) {
    StringBuilder all = new StringBuilder();
    int end = 0;
    for (int k = 0; k < 64; k++) {
      int number = x.shadow(k);
      all.append(k == 0 ? "" : " ").append(number);
      end = number == -3 ? end : all.length();
    }
    return all.substring(0, end);
  }

  /** Each line of the rewritten program as operation/instruction/k. */
  static String rewritten(Subject x) {
    StringBuilder all = new StringBuilder();
    try {
      int size = x.rewrite();
      for (int i = 0; i < size; i++) {
        all.append(i == 0 ? "" : " ").append(x.rewritten(i, 0)).append('/')
            .append(x.rewritten(i, 1)).append('/').append(x.rewritten(i, 2));
      }
    } catch (IllegalStateException e) {
      all.append("none");
    }
    return all.toString();
  }

  static String report(Subject x) {
    return x.report(0) + " " + x.report(1) + " " + x.report(2);
  }
}
