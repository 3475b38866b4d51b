import java.io.IOException;
import java.nio.file.Files;
import java.nio.file.Path;
import java.util.ArrayList;
import java.util.Arrays;
import java.util.List;

/** What the tests have in common: the instructions' numbers, programs in short, and the counting. */
abstract class Bench {
  static final int STOP = 0, CONST = 1, MOVE = 2, ADD = 3, SUB = 4, MUL = 5, LESS = 6, SAME = 7;
  static final int JUMP = 8, ZERO = 9, CALL = 10, RET = 11, PAIR = 12, FIRST = 13, SECOND = 14;
  static final int VAR = 15, READ = 16, WRITE = 17, ATOMIC = 18, COMMIT = 19, OR = 20, END = 21;
  static final int TRY = 22, RETRY = 23, THROW = 24, FORK = 25, PRINT = 26, PUT = 27, GET = 28;
  static final int SORT = 29;

  static final int IS_READY = 1, IS_PARKED = 2, IS_DONE = 3, IS_FAILED = 4;
  static final int STATE = 0, CODE = 1, PC = 2, CALLS = 3, NESTS = 4, READS = 5, WRITES = 6;
  static final int START = 7;

  static final int INSTRUCTIONS = 0, THREADS = 1, PLACES = 2, CLOCK = 3, ABORTS = 4;
  static final int COLLECTIONS = 5, STEPS = 6, PRINTED = 7, STUCK = 8;

  private static final List<String[]> SAID = new ArrayList<>();
  private static String sentence = "";
  private static int right = 0;
  private static int wrong = 0;

  interface Call {
    void make();
  }

  static void due(String what, long got, long want) {
    tally(got == want, what + " answered " + got + ", due is " + want);
  }

  private static void tally(boolean isRight, String otherwise) {
    if (isRight) {
      right++;
    } else {
      wrong++;
      System.out.println(sentence + otherwise);
    }
  }

  /** What follows tests this sentence of the document, which stands in the section so headed. */
  static void says(String section, String words) {
    SAID.add(new String[] {section, words});
    sentence = section + " \"" + words + "\": ";
  }

  static void promises(int number, String words) {
    says("Promise " + number + ":", words);
  }

  static void terms(String words) {
    says("Terms", words);
  }

  /** Every sentence that a test named stands in the document, and no two tests named the same. */
  static void dueInDocument(String file) throws IOException {
    sentence = "";
    String[] sections = Files.readString(Path.of(file)).replaceAll("\\s+", " ").split("## ");
    List<String> before = new ArrayList<>();
    for (String[] said : SAID) {
      boolean stands = false;
      for (String section : sections) {
        stands |= section.startsWith(said[0]) && section.contains(said[1]);
      }
      String both = said[0] + ": " + said[1];
      tally(stands, "not in the document: " + both);
      tally(!before.contains(both), "named by two tests: " + both);
      before.add(both);
    }
  }

  static void dueThrow(String what, Class<? extends RuntimeException> want, Call call) {
    String got = "nothing";
    try {
      call.make();
    } catch (RuntimeException e) {
      got = e.getClass().getSimpleName();
    }
    String due = want.getSimpleName();
    tally(got.equals(due), what + " threw " + got + ", due is " + due);
  }

  /** Each of the calls throws, and all of them change nothing. */
  static void dueRefused(AtomicRuntime x, Class<? extends RuntimeException> want, Call... calls) {
    List<Long> before = everything(x);
    for (int i = 0; i < calls.length; i++) {
      dueThrow("refused call " + i, want, calls[i]);
    }
    tally(everything(x).equals(before), "a refused call changed something");
  }

  private static void dueRow(String what, long[] got, long... want) {
    tally(Arrays.equals(got, want), what + " answered " + Arrays.toString(got)
        + ", due is " + Arrays.toString(want));
  }

  /** STATE, CODE, PC, CALLS, NESTS, READS, WRITES, START. */
  static void dueThread(String what, AtomicRuntime x, int thread, long... want) {
    long[] got = new long[8];
    for (int i = 0; i < got.length; i++) {
      got[i] = x.thread(thread, i);
    }
    dueRow(what + ": thread " + thread, got, want);
  }

  /** INSTRUCTIONS, THREADS, PLACES, CLOCK, ABORTS, COLLECTIONS, STEPS, PRINTED, STUCK. */
  static void dueCounts(String what, AtomicRuntime x, long... want) {
    long[] got = new long[9];
    for (int i = 0; i < got.length; i++) {
      got[i] = x.count(i);
    }
    dueRow(what + ": counts", got, want);
  }

  static void duePlace(String what, AtomicRuntime x, int p, long... want) {
    dueRow(what + ": place " + p, new long[] {x.place(p, 0), x.place(p, 1), x.place(p, 2)}, want);
  }

  /** All that can be asked for, in one row. */
  static List<Long> everything(AtomicRuntime x) {
    List<Long> all = new ArrayList<>();
    for (int what = 0; what <= 8; what++) {
      all.add((long) x.count(what));
    }
    for (int t = 0; t < x.count(THREADS); t++) {
      for (int what = 0; what <= 7; what++) {
        all.add((long) x.thread(t, what));
      }
      for (int k = 0; k < 16; k++) {
        all.add(x.register(t, k));
      }
    }
    for (int k = 0; k < 8; k++) {
      all.add(x.global(k));
    }
    for (int p = 0; p < x.count(PLACES); p++) {
      for (int what = 0; what <= 2; what++) {
        all.add(x.place(p, what));
      }
    }
    for (int k = 0; k < x.count(PRINTED); k++) {
      all.add((long) x.output(k));
    }
    return all;
  }

  static void finish(String test) {
    System.out.println(test + ": " + right + " right, " + wrong + " wrong");
    if (wrong != 0) {
      System.exit(1);
    }
  }

  static long pairAt(int p) {
    return (1L << 33) + p;
  }

  static long varAt(int p) {
    return (1L << 34) + p;
  }

  /** One instruction; operands that are left out are 0. */
  static int[] op(int number, int... operands) {
    int[] row = new int[4];
    row[0] = number;
    System.arraycopy(operands, 0, row, 1, operands.length);
    return row;
  }

  static AtomicRuntime load(int[]... rows) {
    AtomicRuntime x = new AtomicRuntime();
    add(x, rows);
    return x;
  }

  static void add(AtomicRuntime x, int[]... rows) {
    for (int[] row : rows) {
      x.put(row[0], row[1], row[2], row[3]);
    }
  }

  static int[][] times(int n, int[]... rows) {
    int[][] all = new int[n * rows.length][];
    for (int i = 0; i < all.length; i++) {
      all[i] = rows[i % rows.length];
    }
    return all;
  }

  static int[][] join(int[][]... parts) {
    List<int[]> all = new ArrayList<>();
    for (int[][] part : parts) {
      all.addAll(Arrays.asList(part));
    }
    return all.toArray(new int[0][]);
  }

  static int[][] rows(int[]... rows) {
    return rows;
  }

  /** That op with operands that fit if R(1) is an INT, R(2) a PAIR, R(3) a VAR. */
  static int[] fitting(int number) {
    switch (number) {
      case FIRST: case SECOND: return op(number, 4, 2, 0);
      case READ: return op(number, 4, 3, 0);
      case WRITE: return op(number, 3, 1, 0);
      default: return op(number, 1, 1, 1);
    }
  }

  /** R(0) a VAR with R(1), both in a thread 1 that starts at 100, which COMMITs 55 to it. */
  static int[][] withRival(int[]... first) {
    int[][] begin = rows(op(CONST, 1, 3), op(VAR, 0, 1), op(FORK, 14, 100));
    int[][] all = join(begin, first);
    int[][] gap = times(100 - all.length, op(STOP));
    return join(all, gap, rows(
        op(CONST, 1, 55), op(ATOMIC), op(WRITE, 0, 1), op(COMMIT), op(STOP)));
  }

  static void rivalCommits(AtomicRuntime x) {
    due("the rival", x.run(1, 5), 5);
  }

  /** A list of VARS in R(1), then a transaction (R(1) is its list) that reads each of them. */
  static int[][] readsOf(int vars) {
    return join(
        times(vars, op(VAR, 0, 2), op(PAIR, 1, 0, 1)), rows(op(ATOMIC)),
        times(vars, op(FIRST, 0, 1), op(READ, 7, 0), op(SECOND, 1, 1)));
  }

  /** Runs THREAD 0 until it rests, 20,000 STEPS at most. */
  static AtomicRuntime ran(int[]... rows) {
    AtomicRuntime x = load(rows);
    for (int i = 0; i < 40 && x.thread(0, STATE) == IS_READY; i++) {
      x.run(0, 500);
    }
    return x;
  }

  static void dueFailed(String what, AtomicRuntime x, int thread, int code) {
    due(what + ": state", x.thread(thread, STATE), IS_FAILED);
    due(what + ": code", x.thread(thread, CODE), code);
    due(what + ": nests", x.thread(thread, NESTS), 0);
    due(what + ": reads", x.thread(thread, READS), 0);
    due(what + ": writes", x.thread(thread, WRITES), 0);
    due(what + ": start", x.thread(thread, START), -1);
  }
}
