/**
 * Runs small programs on a heap whose blocks lie between red zones, plain or rewritten with a check
 * ahead of whatever touches the heap, and reports the first wrong touch.
 */
public final class ShadowHeap {
  private static final int MOST_INSTRUCTIONS = 40;
  private static final int REGISTERS = 8;
  private static final int MOST_PRINTED = 60;
  private static final int MOST_STEPS = 1000;

  private static final int SET = 0;
  private static final int ADD = 1;
  private static final int SUBTRACT = 2;
  private static final int MULTIPLY = 3;
  private static final int ALLOCATE = 4;
  private static final int FREE = 5;
  private static final int LOAD_BYTE = 6;
  private static final int LOAD_INT = 7;
  private static final int STORE_BYTE = 8;
  private static final int STORE_INT = 9;
  private static final int GO_IF_ZERO = 10;
  private static final int GO_IF_LESS = 11;
  private static final int PRINT = 12;
  private static final int ADD_NUMBER = 13;
  private static final int HALT = 14;
  private static final int CHECK_BYTES = 15;
  private static final int CHECK_FREE = 16;

  private static final int NO_RUN = 0;
  private static final int GOES_ON = 1;
  private static final int OVER = 2;
  private static final int REPORTED = 3;
  private static final int CRASHED = 4;

  private static final int KIND_NONE = 0;
  private static final int KIND_RED = 1;
  private static final int KIND_FREED = 2;
  private static final int KIND_WILD = 3;
  private static final int KIND_WRONG_FREE = 4;
  private static final int KIND_NOT_IN_HEAP = 5;

  private final Program program;
  private final Memory memory;
  private final Run run;

  public ShadowHeap() {
    program = new Program();
    memory = new Memory();
    run = new Run(program, memory);
  }

  public int code(int operation, int r, int a, int b, int k)
      throws IllegalArgumentException, IndexOutOfBoundsException {
    if (operation < SET || operation > HALT) {
      throw new IllegalArgumentException("no such operation");
    }
    if (!isRegister(r) || !isRegister(a) || !isRegister(b)) {
      throw new IllegalArgumentException("no such register");
    }
    if (program.size() >= MOST_INSTRUCTIONS) {
      throw new IndexOutOfBoundsException("the program is full");
    }
    run.drop();
    return program.add(operation, r, a, b, k);
  }

  public void clear() {
    run.drop();
    program.removeAll();
  }

  public int rewrite() throws IllegalStateException {
    refuseGoingOutside();
    return program.rewritten.size;
  }

  public int rewritten(int i, int what)
      throws IllegalStateException, IndexOutOfBoundsException, IllegalArgumentException {
    refuseGoingOutside();
    if (i < 0 || i >= program.rewritten.size) {
      throw new IndexOutOfBoundsException("no such line of the rewritten program");
    }
    switch (what) {
      case 0:
        return program.rewritten.operations[i];
      case 1:
        return program.rewritten.origins[i];
      case 2:
        return program.numberAt(program.rewritten, i);
      default:
        throw new IllegalArgumentException("what is 0 to 2");
    }
  }

  public void start(boolean checked, int x, int y) throws IllegalStateException {
    if (program.size() == 0) {
      throw new IllegalStateException("there are no instructions");
    }
    refuseGoingOutside();
    run.begin(checked, x, y);
  }

  public int step(int n) throws IllegalStateException, IllegalArgumentException {
    if (run.state == NO_RUN) {
      throw new IllegalStateException("there is no run");
    }
    if (n < 0 || n > MOST_STEPS) {
      throw new IllegalArgumentException("n is 0 to 1000");
    }
    int done = 0;
    while (done < n && run.state == GOES_ON) {
      run.doLine();
      done++;
    }
    return done;
  }

  public int look(int what) throws IllegalArgumentException {
    if (what < 0 || what > 5) {
      throw new IllegalArgumentException("what is 0 to 5");
    }
    if (what == 5) {
      return program.size();
    }
    if (run.state == NO_RUN) {
      return 0;
    }
    switch (what) {
      case 0:
        return run.state;
      case 1:
        return run.line;
      case 2:
        return run.printedCount;
      case 3:
        return memory.liveCount;
      default:
        return memory.queued;
    }
  }

  public int register(int r) throws IllegalArgumentException {
    if (!isRegister(r)) {
      throw new IllegalArgumentException("no such register");
    }
    return run.state == NO_RUN ? 0 : run.registers[r];
  }

  public int printed(int i) throws IndexOutOfBoundsException {
    if (run.state == NO_RUN || i < 0 || i >= run.printedCount) {
      throw new IndexOutOfBoundsException("nothing was printed there");
    }
    return run.printedNumbers[i];
  }

  public int heap(int address) throws IndexOutOfBoundsException {
    if (!Memory.holds(address, 1)) {
      throw new IndexOutOfBoundsException("no such address");
    }
    return memory.bytes[address];
  }

  public int shadow(int k) throws IndexOutOfBoundsException {
    if (k < 0 || k >= Memory.CELLS) {
      throw new IndexOutOfBoundsException("no such number of the shadow");
    }
    return memory.shadows[k];
  }

  public int report(int what) throws IllegalStateException, IllegalArgumentException {
    if (run.state != REPORTED) {
      throw new IllegalStateException("there is no report");
    }
    switch (what) {
      case 0:
        return run.reportKind;
      case 1:
        return run.reportAddress;
      case 2:
        return run.listing.origins[run.line];
      default:
        throw new IllegalArgumentException("what is 0 to 2");
    }
  }

  private void refuseGoingOutside() {
    if (!program.goesOnWithin()) {
      throw new IllegalStateException("an instruction goes on at one that is not there");
    }
  }

  private static boolean isRegister(int r) {
    return r >= 0 && r < REGISTERS;
  }

  /** The lines that a run goes through: those of the program itself, or of the rewritten one. */
  private static final class Listing {
    final int[] operations;
    final int[] origins;
    final int[] firstLines;
    int size;

    Listing(int mostLines) {
      operations = new int[mostLines];
      origins = new int[mostLines];
      firstLines = new int[MOST_INSTRUCTIONS];
      size = 0;
    }

    void beginInstruction(int number) {
      firstLines[number] = size;
    }

    void append(int operation, int number) {
      operations[size] = operation;
      origins[size] = number;
      size++;
    }
  }

  /** The instructions, with both listings kept up to date as each one is added. */
  private static final class Program {
    final int[] r = new int[MOST_INSTRUCTIONS];
    final int[] a = new int[MOST_INSTRUCTIONS];
    final int[] b = new int[MOST_INSTRUCTIONS];
    final int[] k = new int[MOST_INSTRUCTIONS];
    final Listing plain = new Listing(MOST_INSTRUCTIONS);
    // An instruction has at most one check ahead of it.
    final Listing rewritten = new Listing(2 * MOST_INSTRUCTIONS);

    int size() {
      return plain.size;
    }

    int add(int operation, int newR, int newA, int newB, int newK) {
      int number = size();
      r[number] = newR;
      a[number] = newA;
      b[number] = newB;
      k[number] = newK;
      plain.beginInstruction(number);
      plain.append(operation, number);
      rewritten.beginInstruction(number);
      if (operation >= LOAD_BYTE && operation <= STORE_INT) {
        rewritten.append(CHECK_BYTES, number);
      } else if (operation == FREE) {
        rewritten.append(CHECK_FREE, number);
      }
      rewritten.append(operation, number);
      return number;
    }

    void removeAll() {
      plain.size = 0;
      rewritten.size = 0;
    }

    boolean goesOnWithin() {
      for (int i = 0; i < size(); i++) {
        if (goesOnElsewhere(plain.operations[i]) && (k[i] < 0 || k[i] >= size())) {
          return false;
        }
      }
      return true;
    }

    /** The line's k; only for a program of which goesOnWithin holds. */
    int numberAt(Listing listing, int line) {
      int number = k[listing.origins[line]];
      return goesOnElsewhere(listing.operations[line]) ? listing.firstLines[number] : number;
    }

    /** How many bytes an instruction that loads or stores touches. */
    int widthOf(int number) {
      int operation = plain.operations[number];
      return operation == LOAD_BYTE || operation == STORE_BYTE ? 1 : 4;
    }

    private static boolean goesOnElsewhere(int operation) {
      return operation == GO_IF_ZERO || operation == GO_IF_LESS;
    }
  }

  /**
   * The heap, its shadow and its blocks. Whatever begins or ends does so at a multiple of eight, so
   * blocks and gaps are counted in CELLS of eight bytes, one for each number of the shadow.
   */
  private static final class Memory {
    static final int BYTES = 512;
    static final int CELL = 8;
    static final int CELLS = 64;
    private static final int MOST_ALLOCATED = 100;
    private static final int MOST_QUARANTINED_CELLS = 20;
    private static final int RED = -1;
    private static final int FREED = -2;
    private static final int WILD = -3;
    private static final int NONE = -1;

    final int[] bytes = new int[BYTES];
    final int[] shadows = new int[CELLS];
    // How many cells the block has that begins at a cell, red zones included; 0: none begins there.
    private final int[] blockCells = new int[CELLS];
    private final boolean[] quarantined = new boolean[CELLS];
    // The cells where the blocks in quarantine begin, the oldest first; a block has three cells or
    // more, so this row never gets full.
    private final int[] queue = new int[CELLS];
    private int queuedCells;
    int queued;
    int liveCount;

    Memory() {
      reset();
    }

    void reset() {
      for (int i = 0; i < BYTES; i++) {
        bytes[i] = 0;
      }
      for (int cell = 0; cell < CELLS; cell++) {
        shadows[cell] = WILD;
        blockCells[cell] = 0;
        quarantined[cell] = false;
      }
      queuedCells = 0;
      queued = 0;
      liveCount = 0;
    }

    static boolean holds(int address, int width) {
      return address >= 0 && address <= BYTES - width;
    }

    int load(int address, int width) {
      int value = 0;
      for (int i = width - 1; i >= 0; i--) {
        value = (value << 8) | bytes[address + i];
      }
      return value;
    }

    void store(int address, int width, int value) {
      for (int i = 0; i < width; i++) {
        bytes[address + i] = (value >>> (8 * i)) & 255;
      }
    }

    /** Why the byte may not be touched, or KIND_NONE. */
    int kindOfTouch(int address) {
      if (!holds(address, 1)) {
        return KIND_NOT_IN_HEAP;
      }
      switch (shadows[address / CELL]) {
        case 0:
          return KIND_NONE;
        case RED:
          return KIND_RED;
        case FREED:
          return KIND_FREED;
        case WILD:
          return KIND_WILD;
        default:
          return address % CELL < shadows[address / CELL] ? KIND_NONE : KIND_RED;
      }
    }

    boolean mayFree(int address) {
      if (address == 0) {
        return true;
      }
      if (!holds(address, 1) || address % CELL != 0) {
        return false;
      }
      int begin = address / CELL - 1;
      return blockCells[begin] > 0 && !quarantined[begin];
    }

    /** The new block's address, or 0. */
    int allocate(int n) {
      if (n < 1 || n > MOST_ALLOCATED) {
        return 0;
      }
      int cells = (n + CELL - 1) / CELL + 2;
      int begin = lowestGap(cells);
      for (int left = queued; left > 0 && begin == NONE; left--) {
        releaseOldest();
        begin = lowestGap(cells);
      }
      if (begin == NONE) {
        return 0;
      }
      placeBlock(begin, cells, n);
      return (begin + 1) * CELL;
    }

    /** Only for an address of which mayFree holds. */
    void free(int address) {
      if (address == 0) {
        return;
      }
      int begin = address / CELL - 1;
      int cells = blockCells[begin];
      paint(begin + 1, begin + cells - 1, FREED);
      quarantined[begin] = true;
      queue[queued] = begin;
      queued++;
      queuedCells += cells;
      liveCount--;
      for (int left = queued; left > 0 && queuedCells > MOST_QUARANTINED_CELLS; left--) {
        releaseOldest();
      }
    }

    private int lowestGap(int cells) {
      int gapBegin = 0;
      int cell = 0;
      while (cell < CELLS) {
        if (blockCells[cell] > 0) {
          cell += blockCells[cell];
          gapBegin = cell;
        } else {
          cell++;
          if (cell - gapBegin >= cells) {
            return gapBegin;
          }
        }
      }
      return NONE;
    }

    private void placeBlock(int begin, int cells, int n) {
      int last = begin + cells - 1;
      blockCells[begin] = cells;
      liveCount++;
      shadows[begin] = RED;
      paint(begin + 1, last, 0);
      shadows[last - 1] = n % CELL;
      shadows[last] = RED;
      for (int i = (begin + 1) * CELL; i < last * CELL; i++) {
        bytes[i] = 0;
      }
    }

    private void releaseOldest() {
      int begin = queue[0];
      int cells = blockCells[begin];
      paint(begin, begin + cells, WILD);
      blockCells[begin] = 0;
      quarantined[begin] = false;
      queued--;
      queuedCells -= cells;
      for (int i = 0; i < queued; i++) {
        queue[i] = queue[i + 1];
      }
    }

    private void paint(int from, int to, int shade) {
      for (int cell = from; cell < to; cell++) {
        shadows[cell] = shade;
      }
    }
  }

  /** A run of one of the listings; the same object serves every run, one after the other. */
  private static final class Run {
    private final Program program;
    private final Memory memory;
    final int[] registers = new int[REGISTERS];
    final int[] printedNumbers = new int[MOST_PRINTED];
    int printedCount;
    Listing listing;
    int state;
    int line;
    int reportKind;
    int reportAddress;

    Run(Program program, Memory memory) {
      this.program = program;
      this.memory = memory;
      listing = program.plain;
      state = NO_RUN;
    }

    void drop() {
      state = NO_RUN;
    }

    void begin(boolean checked, int x, int y) {
      listing = checked ? program.rewritten : program.plain;
      memory.reset();
      for (int i = 0; i < REGISTERS; i++) {
        registers[i] = 0;
      }
      registers[0] = x;
      registers[1] = y;
      printedCount = 0;
      line = 0;
      state = GOES_ON;
    }

    /** Does the instruction or check at which the run is. */
    void doLine() {
      int operation = listing.operations[line];
      int number = listing.origins[line];
      int next = line + 1;
      if (operation == HALT) {
        state = OVER;
      } else if (operation == CHECK_BYTES) {
        checkBytes(addressOf(number), program.widthOf(number));
      } else if (operation == CHECK_FREE) {
        checkFree(aOf(number));
      } else if (operation == GO_IF_ZERO || operation == GO_IF_LESS) {
        next = goesOn(operation, number) ? program.numberAt(listing, line) : next;
      } else if (operation >= ALLOCATE && operation <= STORE_INT) {
        useHeap(operation, number);
      } else if (operation == PRINT) {
        print(aOf(number));
      } else {
        registers[program.r[number]] = computed(operation, number);
      }
      if (state == GOES_ON) {
        goOnAt(next);
      }
    }

    private void goOnAt(int next) {
      if (next >= listing.size) {
        state = OVER;
      } else {
        line = next;
      }
    }

    private boolean goesOn(int operation, int number) {
      return operation == GO_IF_ZERO ? aOf(number) == 0 : aOf(number) < bOf(number);
    }

    private int computed(int operation, int number) {
      switch (operation) {
        case ADD:
          return aOf(number) + bOf(number);
        case SUBTRACT:
          return aOf(number) - bOf(number);
        case MULTIPLY:
          return aOf(number) * bOf(number);
        case ADD_NUMBER:
          return aOf(number) + program.k[number];
        default:
          return program.k[number];
      }
    }

    private void useHeap(int operation, int number) {
      if (operation == ALLOCATE) {
        registers[program.r[number]] = memory.allocate(aOf(number));
      } else if (operation == FREE) {
        freeOrCrash(aOf(number));
      } else {
        touchOrCrash(operation, number);
      }
    }

    private void freeOrCrash(int address) {
      if (memory.mayFree(address)) {
        memory.free(address);
      } else {
        state = CRASHED;
      }
    }

    private void touchOrCrash(int operation, int number) {
      int address = addressOf(number);
      int width = program.widthOf(number);
      if (!Memory.holds(address, width)) {
        state = CRASHED;
      } else if (operation == LOAD_BYTE || operation == LOAD_INT) {
        registers[program.r[number]] = memory.load(address, width);
      } else {
        memory.store(address, width, bOf(number));
      }
    }

    private void checkBytes(int address, int width) {
      for (int i = 0; i < width && state == GOES_ON; i++) {
        int kind = memory.kindOfTouch(address + i);
        if (kind != KIND_NONE) {
          endWithReport(kind, address + i);
        }
      }
    }

    private void checkFree(int address) {
      if (!memory.mayFree(address)) {
        endWithReport(KIND_WRONG_FREE, address);
      }
    }

    private void endWithReport(int kind, int address) {
      reportKind = kind;
      reportAddress = address;
      state = REPORTED;
    }

    private void print(int value) {
      if (printedCount < MOST_PRINTED) {
        printedNumbers[printedCount] = value;
        printedCount++;
      }
    }

    private int aOf(int number) {
      return registers[program.a[number]];
    }

    private int bOf(int number) {
      return registers[program.b[number]];
    }

    private int addressOf(int number) {
      return aOf(number) + program.k[number];
    }
  }
}
