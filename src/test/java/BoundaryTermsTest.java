import java.io.IOException;
import java.util.NoSuchElementException;

/** The terms, without the table and the collection: for each limit that they name a test of its own. */
final class BoundaryTermsTest extends Bench {
  private static final int MIN = Integer.MIN_VALUE;
  private static final int MAX = Integer.MAX_VALUE;

  public static void main(String[] args) throws IOException {
    ints();
    places();
    pairsNeverChange();
    varsHaveVersions();
    instructions();
    threads();
    registers();
    calls();
    nests();
    states();
    globals();
    clock();
    writesOfNests();
    startOfAttempts();
    reads();
    writes();
    validity();
    again();
    rolledBack();
    steps();
    faultsEndTheThread();
    noInstruction();
    noOp();
    noRegisterOrGlobal();
    otherSorts();
    faultyCalls();
    noRoom();
    faultyNests();
    fullLogs();
    orderOfFaults();
    dueInDocument(args[1]);
    finish("BoundaryTermsTest");
  }

  // VALUES, the HEAP, the PROGRAM.

  private static void ints() {
    terms("an INT (32 bits)");
    AtomicRuntime x = ran(
        op(CONST, 1, MAX), op(CONST, 2, MIN), op(CONST, 3, 1), op(ADD, 4, 1, 3), op(SUB, 5, 2, 3), op(VAR, 6, 2));
    due("the greatest", x.register(0, 1), 2147483647L);
    due("the least", x.register(0, 2), -2147483648L);
    due("1 more than the greatest", x.register(0, 4), -2147483648L);
    due("1 less than the least", x.register(0, 5), 2147483647L);
    due("in a VAR", x.place(0, 1), -2147483648L);
  }

  private static void places() {
    terms("HEAP: 200 PLACES");
    AtomicRuntime x = load(join(times(200, op(PAIR, 1, 1, 0)), rows(op(PAIR, 2, 0, 0))));
    due("200 STEPS", x.run(0, 200), 200);
    due("READY", x.thread(0, STATE), IS_READY);
    due("200 PLACES", x.count(PLACES), 200);
    due("the last", x.register(0, 1), pairAt(199));
    x.run(0, 1);
    dueFailed("one more", x, 0, -3);
    due("200 PLACES still", x.count(PLACES), 200);
  }

  private static void pairsNeverChange() {
    terms("a PAIR has two VALUES and never changes");
    AtomicRuntime x = ran(
        op(CONST, 1, 5), op(VAR, 2, 1), op(PAIR, 3, 1, 2), op(CONST, 1, 6), op(ATOMIC), op(WRITE, 2, 1),
        op(COMMIT), op(FIRST, 4, 3), op(SECOND, 5, 3), op(STOP));
    duePlace("the PAIR", x, 1, 1, 5, varAt(0));
    due("FIRST", x.register(0, 4), 5);
    due("SECOND", x.register(0, 5), varAt(0));
  }

  private static void varsHaveVersions() {
    terms("a VAR a VALUE and a VERSION");
    AtomicRuntime x = load(op(CONST, 1, 5), op(VAR, 2, 1), op(ATOMIC), op(WRITE, 2, 2), op(COMMIT));
    x.run(0, 4);
    duePlace("before the COMMIT", x, 0, 2, 5, 0);
    x.run(0, 1);
    duePlace("behind the COMMIT: itself", x, 0, 2, varAt(0), 1);
  }

  private static void instructions() {
    terms("PROGRAM: at most 1,000 INSTRUCTIONS op, a, b, c, numbered from 0");
    AtomicRuntime x = load(op(JUMP, 998, 7, 7), op(CONST, 1, 1));
    for (int i = 2; i < 998; i++) {
      x.put(STOP, 0, 0, 0);
    }
    due("number 998", x.put(CONST, 1, 998, 0), 998);
    due("number 999", x.put(CONST, 2, 999, 0), 999);
    dueThrow("one more", IllegalStateException.class, () -> x.put(STOP, 0, 0, 0));
    due("0, 998 and 999", x.run(0, 3), 3);
    due("998", x.register(0, 1), 998);
    due("999", x.register(0, 2), 999);
    x.run(0, 1);
    dueFailed("1000", x, 0, -1);
  }

  // THREADS.

  private static void threads() {
    terms("THREADS, at most 16");
    AtomicRuntime x = load(join(times(16, op(FORK, 1, 16)), rows(op(STOP))));
    x.run(0, 15);
    due("16 THREADS", x.count(THREADS), 16);
    due("the last", x.register(0, 1), 15);
    x.run(0, 1);
    due("16 THREADS still", x.count(THREADS), 16);
    due("no more", x.register(0, 1), -1);
    due("READY", x.thread(0, STATE), IS_READY);
    dueThrow("run(16, 1)", NoSuchElementException.class, () -> x.run(16, 1));
    for (int t = 0; t < 16; t++) {
      due("STOP of THREAD " + t, x.run(t, 9), 1);
    }
  }

  private static void registers() {
    terms("REGISTERS 0 .. 15 (INT 0 at first)");
    AtomicRuntime x = load(op(MOVE, 0, 15), op(CONST, 15, 1), op(MOVE, 16, 0));
    for (int k = 0; k < 16; k++) {
      due("register(0, " + k + ")", x.register(0, k), 0);
    }
    x.run(0, 2);
    due("R(15)", x.register(0, 15), 1);
    x.run(0, 1);
    dueFailed("R(16)", x, 0, -1);
  }

  /** R(1) calls, one in the other, then as many times RET, then STOP. */
  private static AtomicRuntime callsAndReturns(int calls) {
    return ran(
        op(CONST, 1, calls), op(CONST, 2, 1), op(CALL, 4), op(STOP), op(SUB, 1, 1, 2), op(ZERO, 1, 7),
        op(CALL, 4), op(RET));
  }

  private static void calls() {
    terms("a stack of at most 40 calls");
    dueThread("40 calls", callsAndReturns(40), 0, IS_DONE, 0, 4, 0, 0, 0, 0, -1);
    dueThread("41 calls", callsAndReturns(41), 0, IS_FAILED, -2, 7, 40, 0, 0, 0, -1);
  }

  private static void nests() {
    terms("NESTS, at most 24");
    AtomicRuntime x = ran(join(times(24, op(TRY, 60)), closing(24, 0), rows(op(STOP))));
    due("24 and their ENDS", x.thread(0, STATE), IS_DONE);
    for (int number : new int[] {TRY, ATOMIC}) {
      AtomicRuntime all = load(join(times(23, op(TRY, 60)), rows(op(number, 60), op(TRY, 60))));
      all.run(0, 24);
      due("24 with " + number, all.thread(0, NESTS), 24);
      all.run(0, 1);
      dueFailed("25", all, 0, -4);
      dueFailed("25 with " + number, ran(join(times(24, op(TRY, 60)), rows(op(number, 60)))), 0, -4);
    }
    int[][] full = join(times(22, op(TRY, 60)), rows(op(ATOMIC), op(OR, 60)));
    AtomicRuntime or = load(join(full, rows(op(OR, 60))));
    or.run(0, 24);
    due("24 with OR", or.thread(0, NESTS), 24);
    or.run(0, 1);
    dueFailed("25 with OR", or, 0, -4);
  }

  /** ENDS of NESTS that were opened by as many INSTRUCTIONS from begin on. */
  private static int[][] closing(int nests, int begin) {
    int[][] ends = new int[nests][];
    for (int i = 0; i < nests; i++) {
      ends[i] = op(END, begin + nests + i + 1);
    }
    return ends;
  }

  private static void states() {
    terms("READY, PARKED, DONE or FAILED (by a code)");
    AtomicRuntime x = load(
        op(VAR, 0, 1), op(FORK, 14, 6), op(ATOMIC), op(WRITE, 0, 14), op(COMMIT), op(STOP),
        op(ATOMIC), op(READ, 2, 0), op(ZERO, 2, 10), op(THROW, 14), op(RETRY));
    x.run(0, 2);
    due("THREAD 1 is READY", x.thread(1, STATE), IS_READY);
    x.run(1, 9);
    due("PARKED", x.thread(1, STATE), IS_PARKED);
    x.run(0, 9);
    due("DONE", x.thread(0, STATE), IS_DONE);
    due("READY again", x.thread(1, STATE), IS_READY);
    x.run(1, 9);
    dueFailed("FAILED by a code", x, 1, 1);
  }

  private static void globals() {
    terms("GLOBALS 0 .. 7, INT 0 at first");
    AtomicRuntime x = load(op(CONST, 1, 4), op(GET, 1, 7), op(CONST, 2, 3), op(PUT, 7, 2), op(PUT, 8, 2));
    for (int k = 0; k < 8; k++) {
      due("global(" + k + ")", x.global(k), 0);
    }
    x.run(0, 4);
    due("GET of 7", x.register(0, 1), 0);
    due("PUT to 7", x.global(7), 3);
    x.run(0, 1);
    dueFailed("PUT to 8", x, 0, -1);
  }

  private static void clock() {
    terms("CLOCK: 0 at first");
    AtomicRuntime x = load(op(VAR, 0, 1), op(ATOMIC), op(READ, 1, 0), op(COMMIT));
    due("CLOCK", x.count(CLOCK), 0);
    x.run(0, 3);
    due("START", x.thread(0, START), 0);
    x.run(0, 1);
    due("VERSION 0 is not above START 0", x.count(ABORTS), 0);
  }

  // NESTS and TRANSACTIONS.

  private static void writesOfNests() {
    terms("within an ATOMIC, the number of WRITES at its beginning");
    int[] alts = {RETRY, THROW};
    for (int way : alts) {
      int open = way == RETRY ? OR : TRY;
      AtomicRuntime none = load(
          op(VAR, 0, 1), op(ATOMIC), op(open, 6), op(WRITE, 0, 0), op(WRITE, 0, 0), op(way, 1), op(COMMIT));
      none.run(0, 6);
      dueThread("back to none: " + way, none, 0, IS_READY, 0, 6, 0, 1, 0, 0, 0);
      AtomicRuntime one = load(
          op(VAR, 0, 1), op(ATOMIC), op(WRITE, 0, 1), op(open, 6), op(WRITE, 0, 0), op(way, 1), op(COMMIT));
      one.run(0, 7);
      duePlace("back to one: " + way, one, 0, 2, 0, 1);
      AtomicRuntime all = load(join(
          rows(op(VAR, 0, 1), op(ATOMIC)), times(40, op(WRITE, 0, 1)), rows(op(open, 44), op(way, 1))));
      all.run(0, 44);
      due("back to all 40: " + way, all.thread(0, WRITES), 40);
    }
    AtomicRuntime outside = load(
        op(VAR, 0, 1), op(TRY, 5), op(ATOMIC), op(WRITE, 0, 1), op(THROW, 1), op(ATOMIC), op(COMMIT));
    outside.run(0, 6);
    dueThread("around an ATOMIC", outside, 0, IS_READY, 0, 6, 0, 1, 0, 0, 0);
  }

  private static void startOfAttempts() {
    terms("its START (the CLOCK at the beginning of the attempt)");
    AtomicRuntime x = load(withRival(op(ATOMIC), op(READ, 2, 0), op(COMMIT), op(ATOMIC), op(COMMIT)));
    x.run(0, 4);
    due("the first attempt", x.thread(0, START), 0);
    rivalCommits(x);
    due("a commit of another leaves it", x.thread(0, START), 0);
    x.run(0, 1);
    due("the second attempt", x.thread(0, START), 1);
    x.run(0, 3);
    due("the next TRANSACTION", x.thread(0, START), 1);
  }

  private static void reads() {
    terms("READS (VARS, each once, in order, at most 40)");
    AtomicRuntime x = load(join(readsOf(40), rows(op(READ, 8, 0), op(VAR, 0, 2), op(READ, 8, 0))));
    x.run(0, 199);
    due("39 READS", x.thread(0, READS), 39);
    x.run(0, 1);
    due("40 READS", x.thread(0, READS), 40);
    x.run(0, 2);
    due("each once", x.thread(0, READS), 40);
    due("READY", x.thread(0, STATE), IS_READY);
    x.run(0, 2);
    dueFailed("41 READS", x, 0, -5);
    AtomicRuntime two = load(
        op(VAR, 0, 2), op(VAR, 1, 2), op(ATOMIC), op(READ, 2, 0), op(READ, 2, 1), op(READ, 2, 0), op(READ, 2, 1));
    two.run(0, 7);
    due("each of two once", two.thread(0, READS), 2);
  }

  private static void writes() {
    terms("WRITES (VARS with VALUES, in order, at most 40)");
    int[][] all = rows(op(VAR, 0, 1), op(CONST, 3, 1), op(ATOMIC));
    AtomicRuntime x = load(join(all, times(40, op(ADD, 2, 2, 3), op(WRITE, 0, 2)), rows(op(COMMIT), op(STOP))));
    x.run(0, 83);
    due("40 WRITES", x.thread(0, WRITES), 40);
    x.run(0, 2);
    duePlace("the last in order", x, 0, 2, 40, 1);
    dueFailed("41 WRITES", ran(join(all, times(41, op(WRITE, 0, 2)), rows(op(COMMIT)))), 0, -5);
  }

  private static void validity() {
    terms("VALID: no VAR of READS has a VERSION above START");
    int[][] first = rows(op(VAR, 0, 1), op(ATOMIC), op(WRITE, 0, 1), op(COMMIT), op(ATOMIC));
    for (int[] last : rows(op(COMMIT), op(RETRY), op(THROW, 1))) {
      AtomicRuntime same = load(join(first, rows(op(READ, 2, 0), last)));
      same.run(0, 7);
      due("a VERSION that is START, op " + last[0], same.count(ABORTS), 0);
      AtomicRuntime none = load(join(first, rows(last)));
      none.run(0, 6);
      due("no READS, op " + last[0], none.count(ABORTS), 0);
      AtomicRuntime above = load(withRival(op(ATOMIC), op(READ, 2, 0), last));
      above.run(0, 5);
      rivalCommits(above);
      above.run(0, 1);
      due("a VERSION of 1 above START 0, op " + last[0], above.count(ABORTS), 1);
      AtomicRuntime written = load(withRival(op(ATOMIC), op(WRITE, 0, 1), op(READ, 2, 0), last));
      written.run(0, 6);
      rivalCommits(written);
      written.run(0, 1);
      due("WRITES are not looked at, op " + last[0], written.count(ABORTS), 0);
    }
    for (int at = 0; at < 3; at++) {
      due("the VAR is number " + at + " of three READS", abortsOfThree(at), 1);
    }
  }

  /** Three VARS are read, the one with that number is committed to by another THREAD: ABORTS. */
  private static int abortsOfThree(int number) {
    AtomicRuntime x = load(
        op(VAR, 4, 1), op(VAR, 5, 1), op(VAR, 6, 1), op(FORK, 7, 9), op(ATOMIC), op(READ, 0, 4),
        op(READ, 0, 5), op(READ, 0, 6), op(COMMIT), op(ATOMIC), op(WRITE, 4 + number, 1), op(COMMIT));
    x.run(0, 8);
    x.run(1, 3);
    x.run(0, 1);
    return x.count(ABORTS);
  }

  /**
   * An attempt that began at 7 in a TRY with two calls, with a NEST, a call, a READ and a WRITE of its
   * own and other REGISTERS since then; THREAD 1 changes what it has read.
   */
  private static AtomicRuntime attempt(int[] nest, int[] last) {
    AtomicRuntime x = load(withRival(
        op(VAR, 6, 1), op(CALL, 5), op(TRY, 99), op(CALL, 7), op(ATOMIC), op(CONST, 5, 1), nest,
        op(CALL, 11), op(READ, 2, 0), op(WRITE, 6, 1), op(PAIR, 6, 1, 1), op(CONST, 15, 5), last));
    x.run(0, 15);
    boolean nested = nest[0] != MOVE;
    dueThread("before", x, 0, IS_READY, 0, 15, 3, nested ? 3 : 2, 1, 1, 0);
    return x;
  }

  private static void dueBegunAgain(String what, AtomicRuntime x, int aborts) {
    dueThread(what, x, 0, IS_READY, 0, 8, 2, 2, 0, 0, 1);
    due(what + ": R(5)", x.register(0, 5), 0);
    due(what + ": R(6)", x.register(0, 6), varAt(1));
    due(what + ": R(15)", x.register(0, 15), 0);
    due(what + ": R(2)", x.register(0, 2), 0);
    due(what + ": ABORTS", x.count(ABORTS), aborts);
  }

  private static void again() {
    terms("AGAIN: back to the ATOMIC NEST: the NESTS above it go, REGISTERS and calls are as at its "
        + "beginning, READS and WRITES are empty, START is the CLOCK, PC is behind ATOMIC.");
    int[][] nests = rows(op(OR, 99), op(TRY, 99), op(TRY, 99), op(OR, 99), op(MOVE, 1, 1));
    int[][] lasts = rows(op(READ, 2, 0), op(READ, 2, 0), op(RETRY), op(THROW, 1), op(COMMIT));
    for (int i = 0; i < nests.length; i++) {
      AtomicRuntime x = attempt(nests[i], lasts[i]);
      rivalCommits(x);
      x.run(0, 1);
      dueBegunAgain("op " + lasts[i][0] + " in " + nests[i][0], x, 1);
    }
    AtomicRuntime waits = attempt(op(TRY, 99), op(RETRY));
    waits.run(0, 1);
    due("PARKED", waits.thread(0, STATE), IS_PARKED);
    rivalCommits(waits);
    dueBegunAgain("woken", waits, 0);
  }

  /** A NEST at 7 with alt 20, in a call and an ATOMIC that has a WRITE, and a way that leads back to it. */
  private static void dueRolledBack(int open, int above, int[] way, int code) {
    AtomicRuntime x = load(join(
        rows(op(CONST, 1, 3), op(VAR, 0, 1), op(VAR, 6, 1), op(CALL, 5), op(STOP), op(ATOMIC),
            op(WRITE, 0, 1), op(open, 20), op(CALL, 9), op(CONST, 5, 1), op(WRITE, 0, 5), op(above, 99),
            op(READ, 2, 6), op(CALL, 14), op(WRITE, 0, 2), op(CONST, 14, 7), way),
        times(3, op(STOP)), rows(op(COMMIT), op(RET))));
    x.run(0, 15);
    dueThread("before", x, 0, IS_READY, 0, 16, 3, 3, 1, 3, 0);
    x.run(0, 1);
    String what = "op " + way[0];
    dueThread(what, x, 0, IS_READY, 0, 20, 1, 1, 1, 1, 0);
    due(what + ": R(2)", x.register(0, 2), 0);
    due(what + ": R(5)", x.register(0, 5), 0);
    due(what + ": R(14)", x.register(0, 14), 0);
    due(what + ": R(15)", x.register(0, 15), code);
    x.run(0, 9);
    dueThread(what + ", to the end", x, 0, IS_DONE, 0, 5, 0, 0, 0, 0, -1);
    duePlace(what, x, 0, 2, 3, 1);
  }

  private static void rolledBack() {
    terms("ROLLED BACK to a NEST: that one and those above go, REGISTERS, calls and WRITES are as at its "
        + "beginning.");
    dueRolledBack(OR, TRY, op(RETRY), 0);
    dueRolledBack(TRY, OR, op(THROW, 1), 3);
    AtomicRuntime around = load(
        op(CONST, 1, 3), op(VAR, 0, 1), op(CALL, 4), op(STOP), op(TRY, 11), op(CALL, 6), op(CONST, 5, 1),
        op(ATOMIC), op(WRITE, 0, 5), op(CALL, 10), op(THROW, 1), op(RET));
    around.run(0, 10);
    dueThread("around an ATOMIC", around, 0, IS_READY, 0, 11, 1, 0, 0, 0, -1);
    due("R(5)", around.register(0, 5), 0);
    around.run(0, 9);
    dueThread("to the end", around, 0, IS_DONE, 0, 4, 0, 0, 0, 0, -1);
  }

  // STEPS and FAULTS.

  private static void steps() {
    terms("does the INSTRUCTION at PC, which is 1 more before it (also if there is none)");
    dueThread("no PROGRAM", ran(), 0, IS_FAILED, -1, 1, 0, 0, 0, 0, -1);
    dueThread("a FAULT", ran(op(RET)), 0, IS_FAILED, -2, 1, 0, 0, 0, 0, -1);
    dueThread("ATOMIC has it so", ran(op(ATOMIC), op(RETRY)), 0, IS_PARKED, 0, 2, 0, 1, 0, 0, 0);
    dueThread("at -1", ran(op(JUMP, -1)), 0, IS_FAILED, -1, 0, 0, 0, 0, 0, -1);
    dueThread("at the greatest INT", ran(op(JUMP, MAX)), 0, IS_FAILED, -1, MIN, 0, 0, 0, 0, -1);
    dueThread("at the least INT", ran(op(JUMP, MIN)), 0, IS_FAILED, -1, MIN + 1, 0, 0, 0, 0, -1);
    dueThread("CALL to what is not there", ran(op(CALL, 7)), 0, IS_FAILED, -1, 8, 1, 0, 0, 0, -1);
  }

  private static void faultsEndTheThread() {
    terms("end the THREAD: it is FAILED by that, without NESTS, READS and WRITES");
    int[][] open = rows(
        op(VAR, 0, 1), op(TRY, 99), op(CONST, 2, 2), op(ATOMIC), op(TRY, 99), op(OR, 99), op(READ, 3, 0),
        op(WRITE, 0, 2), op(CONST, 4, 4));
    int[][] ends = rows(op(-1), op(RET), op(PAIR, 9, 9, 0), op(STOP), op(WRITE, 0, 2));
    int[] lasts = {1, 1, 200, 1, 40};
    for (int i = 0; i < ends.length; i++) {
      int code = -1 - i;
      AtomicRuntime x = ran(join(open, times(lasts[i], ends[i])));
      dueThread("code " + code, x, 0, IS_FAILED, code, 9 + lasts[i], 0, 0, 0, 0, -1);
      due("REGISTERS stay", x.register(0, 4), 4);
      due("no TRY has it", x.register(0, 15), 0);
      duePlace("no WRITE is done", x, 0, 2, 0, 0);
      due("no STEP more", x.run(0, 500), 0);
    }
  }

  private static void noInstruction() {
    terms("-1 no INSTRUCTION there");
    dueFailed("none at all", ran(), 0, -1);
    dueFailed("behind the last", ran(op(CONST, 1, 1)), 0, -1);
    for (int target : new int[] {-1, 1, 999, 1000, MIN, MAX}) {
      dueFailed("at " + target, ran(op(JUMP, target)), 0, -1);
    }
    AtomicRuntime later = load(op(CONST, 1, 1));
    later.run(0, 1);
    later.put(STOP, 0, 0, 0);
    later.run(0, 1);
    due("one that came in time", later.thread(0, STATE), IS_DONE);
  }

  private static void noOp() {
    terms("no such op");
    for (int number : new int[] {-1, 30, MIN, MAX}) {
      dueFailed("op " + number, ran(op(number, 1, 1, 1)), 0, -1);
      dueFailed("op " + number + " in a TRANSACTION", ran(op(ATOMIC), op(number, 1, 1, 1)), 0, -1);
    }
    due("op 0", ran(op(0)).thread(0, STATE), IS_DONE);
    due("op 29", ran(op(29, 1, 1), op(0)).thread(0, STATE), IS_DONE);
  }

  /** For each op which operands are REGISTERS (R) or GLOBALS (G); READ and WRITE stand in a TRANSACTION. */
  private static final String[] OPERANDS = {
    "   ", "R  ", "RR ", "RRR", "RRR", "RRR", "RRR", "RRR", "   ", "R  ",
    "   ", "   ", "RRR", "RR ", "RR ", "RR ", "RR ", "RR ", "   ", "   ",
    "   ", "   ", "   ", "   ", "R  ", "R  ", "R  ", "GR ", "RG ", "RR "
  };

  /** That op after those INSTRUCTIONS, for which R(1) is an INT, R(2) a PAIR, R(3) a VAR. */
  private static AtomicRuntime amongSorts(int[] last, int[]... before) {
    boolean inside = last[0] == READ || last[0] == WRITE;
    int[][] begin = rows(op(CONST, 1, 5), op(PAIR, 2, 1, 1), op(VAR, 3, 1));
    AtomicRuntime x = load(join(begin, before, inside ? rows(op(ATOMIC)) : rows(), rows(last)));
    x.run(0, x.count(INSTRUCTIONS));
    return x;
  }

  private static void noRegisterOrGlobal() {
    terms("REGISTER or GLOBAL");
    for (int number = 0; number < OPERANDS.length; number++) {
      for (int at = 1; at <= 3; at++) {
        char sort = OPERANDS[number].charAt(at - 1);
        int last = sort == 'G' ? 7 : 15;
        String what = "op " + number + ", operand " + at + ": ";
        for (int operand : new int[] {-1, last + 1, MIN, MAX}) {
          int[] row = fitting(number);
          row[at] = operand;
          due(what + operand, amongSorts(row).thread(0, CODE) == -1 ? 1 : 0, sort == ' ' ? 0 : 1);
        }
        for (int operand : new int[] {0, last}) {
          int[] row = fitting(number);
          int[] copy = op(MOVE, operand, row[at]);
          row[at] = operand;
          due(what + operand, amongSorts(row, copy).thread(0, CODE) == -1 ? 1 : 0, 0);
        }
      }
    }
  }

  private static void otherSorts() {
    terms("an operand of another sort (INT, PAIR, VAR) than is named");
    String[] named = new String[30];
    for (int number : new int[] {ADD, SUB, MUL, LESS}) {
      named[number] = " II";
    }
    named[FIRST] = " P ";
    named[SECOND] = " P ";
    named[READ] = " V ";
    named[WRITE] = "V  ";
    named[THROW] = "I  ";
    named[PRINT] = "I  ";
    String sorts = "IPV";
    for (int number = 1; number < named.length; number++) {
      for (int at = 0; at < 3; at++) {
        char sort = named[number] == null ? ' ' : named[number].charAt(at);
        for (int k = 0; k < 3 && OPERANDS[number].charAt(at) == 'R'; k++) {
          int[] row = fitting(number);
          row[at + 1] = k + 1;
          boolean fits = sort == ' ' || sort == sorts.charAt(k);
          String what = "op " + number + ", operand " + at + " of sort " + sorts.charAt(k);
          due(what, amongSorts(row).thread(0, CODE) == -1 ? 0 : 1, fits ? 1 : 0);
        }
      }
    }
  }

  private static void faultyCalls() {
    terms("-2 calls: too many, or RET without one since the innermost NEST");
    dueFailed("41 calls", ran(op(CALL, 0)), 0, -2);
    dueFailed("RET without one", ran(op(RET)), 0, -2);
    dueFailed("RET without one any more", ran(op(CALL, 2), op(RET), op(RET)), 0, -2);
    for (int[] nest : rows(op(TRY, 99), op(ATOMIC))) {
      AtomicRuntime x = ran(op(CALL, 1), nest, op(RET));
      dueThread("RET of one before the NEST", x, 0, IS_FAILED, -2, 3, 1, 0, 0, 0, -1);
    }
    dueFailed("RET of one before the OR", ran(op(ATOMIC), op(CALL, 2), op(OR, 99), op(RET)), 0, -2);
    AtomicRuntime since = load(op(CALL, 1), op(TRY, 99), op(CALL, 4), op(STOP), op(RET));
    due("RET of one since it", since.run(0, 4), 4);
    dueThread("RET of one since it", since, 0, IS_READY, 0, 3, 1, 1, 0, 0, -1);
    AtomicRuntime gone = ran(op(CALL, 2), op(STOP), op(TRY, 99), op(END, 4), op(RET));
    due("RET behind the END", gone.thread(0, STATE), IS_DONE);
  }

  private static void noRoom() {
    terms("-3 no room in the HEAP");
    for (int[] last : rows(op(PAIR, 2, 0, 0), op(VAR, 2, 0))) {
      AtomicRuntime x = load(join(times(200, op(PAIR, 1, 1, 0)), rows(last)));
      due("200 have room", x.run(0, 200), 200);
      due("201 has none", x.run(0, 2), 1);
      dueFailed("201", x, 0, -3);
      due("R(2) stays", x.register(0, 2), 0);
    }
  }

  private static void faultyNests() {
    terms("-4 NESTS: too many, or not as the INSTRUCTION asks");
    dueFailed("too many", ran(op(TRY, 0), op(JUMP, 0)), 0, -4);
    for (int[] last : rows(op(STOP), op(COMMIT))) {
      dueFailed("in TRY: " + last[0], ran(op(TRY, 99), last), 0, -4);
    }
    for (int[] last : rows(op(STOP), op(END, 99), op(ATOMIC))) {
      dueFailed("in ATOMIC: " + last[0], ran(op(ATOMIC), last), 0, -4);
    }
    for (int[] last : rows(op(STOP), op(COMMIT), op(ATOMIC))) {
      dueFailed("in OR: " + last[0], ran(op(ATOMIC), op(OR, 99), last), 0, -4);
    }
    for (int[] last : rows(op(COMMIT), op(END, 99), op(RETRY), op(OR, 99))) {
      dueFailed("in none: " + last[0], ran(last), 0, -4);
    }
  }

  private static void fullLogs() {
    terms("-5 too many READS or WRITES");
    AtomicRuntime reads = ran(readsOf(41));
    dueFailed("41 READS", reads, 0, -5);
    due("at the last of them", reads.thread(0, PC), 41 * 2 + 1 + 40 * 3 + 2);
    AtomicRuntime writes = ran(join(rows(op(VAR, 0, 1), op(ATOMIC)), times(41, op(WRITE, 0, 1))));
    dueFailed("41 WRITES", writes, 0, -5);
    due("at the last of them", writes.thread(0, PC), 43);
  }

  private static void orderOfFaults() {
    terms("Of several the first in the order -1, -4, -2, -5, -3.");
    dueFailed("-1 before -4: no REGISTER", ran(op(ATOMIC), op(FORK, 16, 0)), 0, -1);
    dueFailed("-1 before -4: another sort", ran(op(READ, 1, 0)), 0, -1);
    dueFailed("-1 before -4: another sort", ran(op(WRITE, 0, 0)), 0, -1);
    dueFailed("-1 before -4: another sort", ran(op(PAIR, 1, 0, 0), op(ATOMIC), op(PRINT, 1)), 0, -1);
    dueFailed("-1 before -4: no GLOBAL", ran(op(ATOMIC), op(PUT, 8, 0)), 0, -1);
    int[][] writes = join(rows(op(VAR, 0, 1), op(ATOMIC)), times(40, op(WRITE, 0, 1)));
    dueFailed("-1 before -5: another sort", ran(join(writes, rows(op(WRITE, 1, 1)))), 0, -1);
    dueFailed("-1 before -5: no REGISTER", ran(join(writes, rows(op(WRITE, 0, 16)))), 0, -1);
    dueFailed("-1 before -5: another sort", ran(join(readsOf(40), rows(op(READ, 7, 7)))), 0, -1);
    for (int[] last : rows(op(PAIR, 16, 0, 0), op(PAIR, 2, 0, 16), op(VAR, 2, -1))) {
      AtomicRuntime x = load(join(times(200, op(PAIR, 1, 1, 0)), rows(last)));
      x.run(0, 201);
      dueFailed("-1 before -3", x, 0, -1);
      due("and before the COLLECTION", x.count(COLLECTIONS), 0);
    }
  }
}
