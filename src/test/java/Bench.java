/** What the tests have in common: the instructions' numbers, programs in short, and the counting. */
abstract class Bench {
  static final int STOP = 0, CONST = 1, MOVE = 2, ADD = 3, SUB = 4, MUL = 5, LESS = 6, SAME = 7;
  static final int JUMP = 8, ZERO = 9, CALL = 10, RET = 11, PAIR = 12, FIRST = 13, SECOND = 14;
  static final int VAR = 15, READ = 16, WRITE = 17, ATOMIC = 18, COMMIT = 19, OR = 20, END = 21;
  static final int TRY = 22, RETRY = 23, THROW = 24, FORK = 25, PRINT = 26, PUT = 27, GET = 28;
  static final int SORT = 29;

  static final int IS_READY = 1, IS_PARKED = 2, IS_DONE = 3, IS_FAILED = 4;
  static final int STATE = 0, CODE = 1, PC = 2, CALLS = 3, NESTS = 4, READS = 5, WRITES = 6;
  static final int START = 7;

  static final int INSTRUCTIONS = 0, THREADS = 1, PLACES = 2, CLOCK = 3, ABORTS = 4;
  static final int COLLECTIONS = 5, STEPS = 6, PRINTED = 7, STUCK = 8;

  private static int right = 0;
  private static int wrong = 0;

  interface Call {
    void make();
  }

  static void due(String what, long got, long want) {
    if (got == want) {
      right++;
    } else {
      wrong++;
      System.out.println(what + " answered " + got + ", due is " + want);
    }
  }

  static void dueThrow(String what, Class<? extends RuntimeException> want, Call call) {
    String got = "nothing";
    try {
      call.make();
    } catch (RuntimeException e) {
      got = e.getClass().getSimpleName();
    }
    if (got.equals(want.getSimpleName())) {
      right++;
    } else {
      wrong++;
      System.out.println(what + " threw " + got + ", due is " + want.getSimpleName());
    }
  }

  static void finish(String test) {
    System.out.println(test + ": " + right + " right, " + wrong + " wrong");
    if (wrong != 0) {
      System.exit(1);
    }
  }

  static long pairAt(int p) {
    return (1L << 33) + p;
  }

  static long varAt(int p) {
    return (1L << 34) + p;
  }

  /** One instruction; operands that are left out are 0. */
  static int[] op(int number, int... operands) {
    int[] row = new int[4];
    row[0] = number;
    System.arraycopy(operands, 0, row, 1, operands.length);
    return row;
  }

  static AtomicRuntime load(int[]... rows) {
    AtomicRuntime x = new AtomicRuntime();
    add(x, rows);
    return x;
  }

  static void add(AtomicRuntime x, int[]... rows) {
    for (int[] row : rows) {
      x.put(row[0], row[1], row[2], row[3]);
    }
  }

  static int[][] times(int n, int[]... rows) {
    int[][] all = new int[n * rows.length][];
    for (int i = 0; i < all.length; i++) {
      all[i] = rows[i % rows.length];
    }
    return all;
  }

  static int[][] join(int[][]... parts) {
    java.util.List<int[]> all = new java.util.ArrayList<>();
    for (int[][] part : parts) {
      all.addAll(java.util.Arrays.asList(part));
    }
    return all.toArray(new int[0][]);
  }

  static int[][] rows(int[]... rows) {
    return rows;
  }

  /** Runs THREAD 0 until it rests, 20,000 STEPS at most. */
  static AtomicRuntime ran(int[]... rows) {
    AtomicRuntime x = load(rows);
    for (int i = 0; i < 40 && x.thread(0, STATE) == IS_READY; i++) {
      x.run(0, 500);
    }
    return x;
  }

  static void dueFailed(String what, AtomicRuntime x, int thread, int code) {
    due(what + ": state", x.thread(thread, STATE), IS_FAILED);
    due(what + ": code", x.thread(thread, CODE), code);
    due(what + ": nests", x.thread(thread, NESTS), 0);
    due(what + ": reads", x.thread(thread, READS), 0);
    due(what + ": writes", x.thread(thread, WRITES), 0);
    due(what + ": start", x.thread(thread, START), -1);
  }
}
