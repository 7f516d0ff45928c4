/** All that can be seen of an object, as one text, to tell whether a call has changed anything. */
final class Seen {
  private Seen() {}

  static String of(ShadowHeap x) {
    StringBuilder all = new StringBuilder();
    for (int what = 0; what <= 5; what++) {
      all.append(x.look(what)).append(' ');
    }
    for (int r = 0; r < 8; r++) {
      all.append(x.register(r)).append(' ');
    }
    for (int i = 0; i < x.look(2); i++) {
      all.append(x.printed(i)).append(' ');
    }
    for (int address = 0; address < 512; address++) {
      all.append(x.heap(address)).append(' ');
    }
    all.append(shadowOf(x));
    if (x.look(0) == 3) {
      all.append(x.report(0)).append(' ').append(x.report(1)).append(' ').append(x.report(2));
    }
    return all.append(rewrittenOf(x)).toString();
  }

  /** The shadow up to the last number that is not WILD. */
  static String shadowOf(ShadowHeap x) {
    StringBuilder all = new StringBuilder();
    int end = 64;
    while (end > 0 && x.shadow(end - 1) == -3) {
      end--;
    }
    for (int k = 0; k < end; k++) {
      all.append(k == 0 ? "" : " ").append(x.shadow(k));
    }
    return all.toString();
  }

  static String rewrittenOf(ShadowHeap x) {
    StringBuilder all = new StringBuilder();
    try {
      int size = x.rewrite();
      for (int i = 0; i < size; i++) {
        all.append(i == 0 ? "" : " ").append(x.rewritten(i, 0)).append('/')
            .append(x.rewritten(i, 1)).append('/').append(x.rewritten(i, 2));
      }
    } catch (IllegalStateException e) {
      all.append("none");
    }
    return all.toString();
  }

  static String report(ShadowHeap x) {
    return x.report(0) + " " + x.report(1) + " " + x.report(2);
  }
}
