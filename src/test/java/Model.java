import java.util.ArrayList;
import java.util.Arrays;
import java.util.List;

/**
 * The document written down a second time, byte by byte and without regard to speed, so that
 * ModelTest can hold the program against it. It shares no code and no way of counting with it.
 */
final class Model implements Face {
  private record Instruction(int operation, int r, int a, int b, int k) {}

  private record Line(int operation, int origin, int k) {}

  private record Block(int begin, int body, int bodyEnd, int end) {}

  private final List<Instruction> program = new ArrayList<>();
  private final int[] bytes = new int[512];
  // Of each byte: o may be touched, p behind the first ones, r red, f freed, w wild.
  private final char[] marks = new char[512];
  private final List<Block> live = new ArrayList<>();
  private final List<Block> quarantine = new ArrayList<>();
  private final int[] registers = new int[8];
  private final List<Integer> printed = new ArrayList<>();
  private List<Line> lines = new ArrayList<>();
  private int[] report = null;
  private int state = 0;
  private int at = 0;

  Model() {
    emptyHeap();
  }

  private void emptyHeap() {
    Arrays.fill(bytes, 0);
    Arrays.fill(marks, 'w');
    live.clear();
    quarantine.clear();
  }

  @Override
  public int code(int operation, int r, int a, int b, int k) {
    boolean registersThere = (r & ~7) == 0 && (a & ~7) == 0 && (b & ~7) == 0;
    if (operation < 0 || operation > 14 || !registersThere) {
      throw new IllegalArgumentException();
    }
    if (program.size() == 40) {
      throw new IndexOutOfBoundsException();
    }
    program.add(new Instruction(operation, r, a, b, k));
    state = 0;
    return program.size() - 1;
  }

  @Override
  public void clear() {
    program.clear();
    state = 0;
  }

  private List<Line> rewrittenProgram() {
    List<Line> result = new ArrayList<>();
    for (Instruction one : program) {
      boolean goes = one.operation == 10 || one.operation == 11;
      if (goes && (one.k < 0 || one.k >= program.size())) {
        throw new IllegalStateException();
      }
    }
    for (int i = 0; i < program.size(); i++) {
      Instruction one = program.get(i);
      if (one.operation == 5) {
        result.add(new Line(16, i, one.k));
      }
      if (one.operation == 6 || one.operation == 7 || one.operation == 8 || one.operation == 9) {
        result.add(new Line(15, i, one.k));
      }
      boolean goes = one.operation == 10 || one.operation == 11;
      int ahead = 0;
      for (int j = 0; goes && j < one.k; j++) {
        int o = program.get(j).operation;
        ahead += o >= 5 && o <= 9 ? 2 : 1;
      }
      result.add(new Line(one.operation, i, goes ? ahead : one.k));
    }
    return result;
  }

  @Override
  public int rewrite() {
    return rewrittenProgram().size();
  }

  @Override
  public int rewritten(int i, int what) {
    List<Line> all = rewrittenProgram();
    if (i < 0 || i >= all.size()) {
      throw new IndexOutOfBoundsException();
    }
    return switch (what) {
      case 0 -> all.get(i).operation;
      case 1 -> all.get(i).origin;
      case 2 -> all.get(i).k;
      default -> throw new IllegalArgumentException();
    };
  }

  @Override
  public void start(boolean checked, int x, int y) {
    List<Line> all = rewrittenProgram();
    if (program.isEmpty()) {
      throw new IllegalStateException();
    }
    lines = all;
    if (!checked) {
      lines = new ArrayList<>();
      for (int i = 0; i < program.size(); i++) {
        lines.add(new Line(program.get(i).operation, i, program.get(i).k));
      }
    }
    emptyHeap();
    Arrays.fill(registers, 0);
    registers[0] = x;
    registers[1] = y;
    printed.clear();
    report = null;
    at = 0;
    state = 1;
  }

  @Override
  public int step(int n) {
    if (state == 0) {
      throw new IllegalStateException();
    }
    if (n < 0 || n > 1000) {
      throw new IllegalArgumentException();
    }
    int done = 0;
    for (; done < n && state == 1; done++) {
      int next = one(lines.get(at));
      if (state == 1 && next == lines.size()) {
        state = 2;
      } else if (state == 1) {
        at = next;
      }
    }
    return done;
  }

  private int one(Line line) {
    Instruction i = program.get(line.origin);
    int a = registers[i.a];
    int b = registers[i.b];
    int next = at + 1;
    switch (line.operation) {
      case 0 -> registers[i.r] = i.k;
      case 1 -> registers[i.r] = a + b;
      case 2 -> registers[i.r] = a - b;
      case 3 -> registers[i.r] = a * b;
      case 4 -> registers[i.r] = allocate(a);
      case 5 -> free(a);
      case 6, 7, 8, 9 -> touch(i, a + i.k, b);
      case 10 -> next = a == 0 ? line.k : next;
      case 11 -> next = a < b ? line.k : next;
      case 12 -> {
        if (printed.size() < 60) {
          printed.add(a);
        }
      }
      case 13 -> registers[i.r] = a + i.k;
      case 14 -> state = 2;
      case 15 -> check(i, a + i.k, line.origin);
      default -> {
        if (a != 0 && blockAt(a) == null) {
          state = 3;
          report = new int[] {4, a, line.origin};
        }
      }
    }
    return next;
  }

  private void check(Instruction i, int address, int origin) {
    int width = i.operation % 2 == 0 ? 1 : 4;
    for (int n = 0; n < width; n++) {
      int byteAt = address + n;
      int kind = byteAt < 0 || byteAt > 511 ? 5 : kindOfMark(marks[byteAt]);
      if (kind != 0) {
        state = 3;
        report = new int[] {kind, byteAt, origin};
        return;
      }
    }
  }

  private static int kindOfMark(char mark) {
    return switch (mark) {
      case 'o' -> 0;
      case 'f' -> 2;
      case 'w' -> 3;
      default -> 1;
    };
  }

  private void touch(Instruction i, int address, int b) {
    long last = (long) address + (i.operation % 2 == 0 ? 0 : 3);
    if (address < 0 || last > 511) {
      state = 4;
      return;
    }
    switch (i.operation) {
      case 6 -> registers[i.r] = bytes[address];
      case 7 -> registers[i.r] = bytes[address] + bytes[address + 1] * 256
          + bytes[address + 2] * 65536 + bytes[address + 3] * 16777216;
      case 8 -> bytes[address] = Math.floorMod(b, 256);
      default -> {
        bytes[address] = Math.floorMod(b, 256);
        bytes[address + 1] = Math.floorMod(b >> 8, 256);
        bytes[address + 2] = Math.floorMod(b >> 16, 256);
        bytes[address + 3] = Math.floorMod(b >> 24, 256);
      }
    }
  }

  private int gap(int size) {
    boolean[] taken = new boolean[512];
    for (List<Block> blocks : List.of(live, quarantine)) {
      for (Block block : blocks) {
        Arrays.fill(taken, block.begin, block.end, true);
      }
    }
    for (int begin = 0; begin < 512; begin++) {
      if (!taken[begin] && (begin == 0 || taken[begin - 1])) {
        int end = begin;
        while (end < 512 && !taken[end]) {
          end++;
        }
        if (end - begin >= size) {
          return begin;
        }
      }
    }
    return -1;
  }

  private int allocate(int n) {
    if (n < 1 || n > 100) {
      return 0;
    }
    int body = n;
    while (body % 8 != 0) {
      body++;
    }
    while (gap(body + 16) < 0 && !quarantine.isEmpty()) {
      releaseOldest();
    }
    int begin = gap(body + 16);
    if (begin < 0) {
      return 0;
    }
    Block block = new Block(begin, begin + 8, begin + 8 + body, begin + 16 + body);
    live.add(block);
    for (int i = block.begin; i < block.end; i++) {
      boolean inBody = i >= block.body && i < block.bodyEnd;
      marks[i] = !inBody ? 'r' : i < block.body + n ? 'o' : 'p';
      bytes[i] = inBody ? 0 : bytes[i];
    }
    return block.body;
  }

  private Block blockAt(int address) {
    for (Block block : live) {
      if (block.body == address) {
        return block;
      }
    }
    return null;
  }

  private void free(int address) {
    Block block = blockAt(address);
    if (address == 0) {
      return;
    }
    if (block == null) {
      state = 4;
      return;
    }
    Arrays.fill(marks, block.body, block.bodyEnd, 'f');
    live.remove(block);
    quarantine.add(block);
    while (quarantine.stream().mapToInt(one -> one.end - one.begin).sum() > 160) {
      releaseOldest();
    }
  }

  private void releaseOldest() {
    Block block = quarantine.remove(0);
    Arrays.fill(marks, block.begin, block.end, 'w');
  }

  @Override
  public int look(int what) {
    int run = state == 0 ? 0 : 1;
    return switch (what) {
      case 0 -> state;
      case 1 -> run * at;
      case 2 -> run * printed.size();
      case 3 -> run * live.size();
      case 4 -> run * quarantine.size();
      case 5 -> program.size();
      default -> throw new IllegalArgumentException();
    };
  }

  @Override
  public int register(int r) {
    if (r < 0 || r > 7) {
      throw new IllegalArgumentException();
    }
    return state == 0 ? 0 : registers[r];
  }

  @Override
  public int printed(int i) {
    if (state == 0 || i < 0 || i >= printed.size()) {
      throw new IndexOutOfBoundsException();
    }
    return printed.get(i);
  }

  @Override
  public int heap(int address) {
    if (address < 0 || address > 511) {
      throw new IndexOutOfBoundsException();
    }
    return bytes[address];
  }

  @Override
  public int shadow(int k) {
    if (k < 0 || k > 63) {
      throw new IndexOutOfBoundsException();
    }
    String eight = new String(marks, 8 * k, 8);
    return switch (eight.charAt(0)) {
      case 'r' -> -1;
      case 'f' -> -2;
      case 'w' -> -3;
      default -> Math.max(0, eight.indexOf('p'));
    };
  }

  @Override
  public int report(int what) {
    if (state != 3) {
      throw new IllegalStateException();
    }
    if (what < 0 || what > 2) {
      throw new IllegalArgumentException();
    }
    return report[what];
  }
}
