/** The document's face, so that the class and the model can be asked alike. */
interface Face {
  int code(int operation, int r, int a, int b, int k);

  void clear();

  int rewrite();

  int rewritten(int i, int what);

  void start(boolean checked, int x, int y);

  int step(int n);

  int look(int what);

  int register(int r);

  int printed(int i);

  int heap(int address);

  int shadow(int k);

  int report(int what);
}
