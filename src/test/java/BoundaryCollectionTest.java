import java.io.IOException;

/** A new PAIR or VAR and the COLLECTION: for each sentence that names a boundary case a test of its own. */
final class BoundaryCollectionTest extends Bench {
  public static void main(String[] args) throws IOException {
    behindAll();
    whenFull();
    registersStay();
    nestsStay();
    globalsStay();
    doneThreadsKeepOne();
    readsStay();
    writesStay();
    inOrder();
    valuesFollow();
    othersBecomeZero();
    noneIsFree();
    dueInDocument(args[1]);
    finish("BoundaryCollectionTest");
  }

  private static void behindAll() {
    terms("A new PAIR or VAR gets the PLACE behind all that are there");
    AtomicRuntime x = load(op(PAIR, 1, 0, 0), op(VAR, 2, 0), op(CONST, 1, 0), op(PAIR, 3, 0, 0), op(VAR, 1, 0));
    x.run(0, 1);
    due("the first", x.register(0, 1), pairAt(0));
    x.run(0, 1);
    due("the second", x.register(0, 2), varAt(1));
    x.run(0, 2);
    due("0 is not free before a COLLECTION", x.register(0, 3), pairAt(2));
    due("two stay", x.collect(), 2);
    x.run(0, 1);
    due("behind the two", x.register(0, 1), varAt(2));
    AtomicRuntime empty = load(op(PAIR, 1, 0, 0), op(CONST, 1, 0), op(VAR, 1, 0));
    empty.run(0, 2);
    due("none stays", empty.collect(), 0);
    empty.run(0, 1);
    due("the first again", empty.register(0, 1), varAt(0));
  }

  private static void whenFull() {
    terms("if that is 200, first a COLLECTION");
    for (int[] made : rows(op(PAIR, 1, 0, 0), op(VAR, 1, 0))) {
      AtomicRuntime x = load(join(times(201, made), rows(op(PAIR, 2, 1, 1))));
      x.run(0, 199);
      dueCounts("199", x, 202, 1, 199, 0, 0, 0, 199, 0, 0);
      x.run(0, 1);
      dueCounts("200", x, 202, 1, 200, 0, 0, 0, 200, 0, 0);
      x.run(0, 1);
      dueCounts("201: the old R(1) and the new one", x, 202, 1, 2, 0, 0, 1, 201, 0, 0);
      x.run(0, 1);
      due("the next without one", x.count(COLLECTIONS), 1);
      due("is behind", x.register(0, 2), pairAt(2));
    }
    AtomicRuntime freed = load(join(times(201, op(PAIR, 1, 0, 0))));
    freed.run(0, 200);
    due("collect()", freed.collect(), 1);
    freed.run(0, 1);
    due("then none is due", freed.count(COLLECTIONS), 1);
  }

  /** 16 REGISTERS with a PAIR each, made in that order, behind one that nothing reaches. */
  private static int[][] fillRegisters() {
    int[][] all = rows(op(PAIR, 0, 0, 0), op(CONST, 0, 0));
    for (int k = 0; k < 16; k++) {
      all = join(all, rows(op(PAIR, k, 15, 15)));
    }
    return all;
  }

  private static void registersStay() {
    terms("what REGISTERS and NESTS of THREADS that are not DONE or FAILED");
    AtomicRuntime ready = load(fillRegisters());
    ready.run(0, 18);
    due("all 16 of a READY one", ready.collect(), 16);
    for (int k = 0; k < 16; k++) {
      due("R(" + k + ")", ready.register(0, k), pairAt(k));
    }
    AtomicRuntime parked = load(join(rows(op(ATOMIC)), fillRegisters(), rows(op(RETRY))));
    parked.run(0, 20);
    due("PARKED", parked.thread(0, STATE), IS_PARKED);
    due("all 16 of a PARKED one", parked.collect(), 16);
    due("R(15)", parked.register(0, 15), pairAt(15));
    AtomicRuntime all = load(op(FORK, 0, 0), op(PAIR, 7, 0, 0), op(JUMP, 2));
    all.turn(2);
    due("of all 16 THREADS", all.collect(), 16);
    due("of the last", all.register(15, 7), pairAt(15));
    int[][] ends = rows(op(STOP), op(RET));
    for (int[] end : ends) {
      AtomicRuntime x = load(op(PAIR, 1, 0, 0), op(VAR, 15, 0), end);
      x.run(0, 3);
      due("none of one at rest, op " + end[0], x.collect(), 0);
    }
  }

  private static void nestsStay() {
    terms("NESTS of THREADS");
    // Each of 24 NESTS saves another PAIR in R(1), the last of them in R(15) as well.
    int[][] all = rows();
    for (int i = 0; i < 24; i++) {
      all = join(all, rows(op(PAIR, 1, 0, 0), i == 23 ? op(PAIR, 15, 0, 0) : op(MOVE, 2, 2), op(TRY, 90)));
    }
    AtomicRuntime x = load(join(
        rows(op(PAIR, 9, 0, 0), op(CONST, 9, 0)), all, rows(op(CONST, 1, 0), op(CONST, 15, 0), op(THROW, 0))));
    x.run(0, 76);
    due("24 NESTS", x.thread(0, NESTS), 24);
    due("25 PAIRS", x.collect(), 25);
    x.run(0, 1);
    due("R(1) of the innermost", x.register(0, 1), pairAt(23));
    due("R(15) is the code", x.collect(), 24);
    AtomicRuntime gone = load(op(PAIR, 1, 0, 0), op(TRY, 9), op(CONST, 1, 0), op(END, 4), op(JUMP, 4));
    gone.run(0, 4);
    due("not a NEST that is gone", gone.collect(), 0);
    AtomicRuntime failed = load(op(PAIR, 1, 0, 0), op(TRY, 9), op(CONST, 1, 0), op(RET));
    failed.run(0, 4);
    due("not the NESTS of a FAILED one", failed.collect(), 0);
  }

  private static void globalsStay() {
    terms("GLOBALS, R(0)");
    int[][] all = rows(op(PAIR, 1, 0, 0));
    for (int k = 0; k < 8; k++) {
      all = join(all, rows(op(VAR, 1, 0), op(PUT, k, 1)));
    }
    AtomicRuntime x = load(join(all, rows(op(STOP))));
    x.run(0, 18);
    due("all eight, with no THREAD that is READY", x.collect(), 8);
    for (int k = 0; k < 8; k++) {
      due("global(" + k + ")", x.global(k), varAt(k));
    }
    AtomicRuntime over = load(op(VAR, 1, 0), op(PUT, 0, 1), op(CONST, 1, 0), op(PUT, 0, 1));
    over.run(0, 3);
    due("by the GLOBAL alone", over.collect(), 1);
    over.run(0, 1);
    due("not any more", over.collect(), 0);
  }

  private static void doneThreadsKeepOne() {
    terms("R(0) of those that are DONE");
    int[][] rows = rows(op(PAIR, 1, 0, 0), op(VAR, 2, 1), op(PAIR, 0, 2, 2), op(VAR, 3, 0));
    AtomicRuntime done = load(join(rows, rows(op(STOP))));
    done.run(0, 9);
    due("R(0) and what it reaches", done.collect(), 3);
    due("R(0) follows", done.register(0, 0), pairAt(2));
    due("and again", done.collect(), 3);
    AtomicRuntime failed = load(join(rows, rows(op(RET))));
    failed.run(0, 9);
    due("not of one that is FAILED", failed.collect(), 0);
    AtomicRuntime thrown = load(join(rows, rows(op(THROW, 15))));
    thrown.run(0, 9);
    due("nor thrown out of all", thrown.collect(), 0);
  }

  private static void readsStay() {
    terms("READS, WRITES reach stays");
    AtomicRuntime x = load(join(
        rows(op(PAIR, 1, 0, 0), op(CONST, 1, 0), op(ATOMIC)), times(40, op(VAR, 1, 0), op(READ, 2, 1)),
        rows(op(CONST, 1, 0))));
    x.run(0, 84);
    due("40 VARS of READS alone", x.collect(), 40);
    due("READS", x.thread(0, READS), 40);
    AtomicRuntime own = load(
        op(PAIR, 9, 0, 0), op(CONST, 9, 0), op(ATOMIC), op(VAR, 1, 0), op(PAIR, 2, 1, 1), op(VAR, 1, 2),
        op(READ, 3, 1), op(CONST, 1, 0), op(CONST, 2, 0), op(CONST, 3, 0), op(COMMIT), op(JUMP, 11));
    own.run(0, 10);
    due("a VAR of READS, its PAIR and that one's VAR", own.collect(), 3);
    own.run(0, 1);
    due("READS that are empty again", own.collect(), 0);
    AtomicRuntime parked = load(op(PAIR, 9, 0, 0), op(CONST, 9, 0), op(ATOMIC), op(VAR, 1, 0), op(READ, 2, 1),
        op(CONST, 1, 0), op(RETRY));
    parked.run(0, 7);
    due("READS of a PARKED one", parked.collect(), 1);
    AtomicRuntime failed = load(op(ATOMIC), op(VAR, 1, 0), op(READ, 2, 1), op(WRITE, 1, 1), op(RET));
    failed.run(0, 5);
    due("a FAILED one has none", failed.collect(), 0);
  }

  private static void writesStay() {
    terms("WRITES reach stays, in its order");
    int[][] begin = rows(op(PAIR, 9, 0, 0), op(CONST, 9, 0), op(ATOMIC), op(VAR, 1, 0));
    int[][] write = rows(op(PAIR, 2, 0, 0), op(WRITE, 1, 2));
    int[][] gone = rows(op(CONST, 1, 0), op(CONST, 2, 0));
    AtomicRuntime all = load(join(begin, times(40, write), gone, rows(op(COMMIT), op(JUMP, 87))));
    all.run(0, 86);
    due("a VAR and 40 VALUES, the last of them or not", all.collect(), 41);
    all.run(0, 1);
    due("WRITES that are empty again", all.collect(), 0);
    AtomicRuntime back = load(join(begin, rows(op(OR, 8)), write, rows(op(RETRY), op(CONST, 1, 0), op(JUMP, 9))));
    back.run(0, 9);
    due("none that is ROLLED BACK", back.collect(), 0);
  }

  private static void inOrder() {
    terms("stays, in its order, from PLACE 0 on");
    // The PLACES 0, 2, 4 .. are reached, the last of them first.
    int[][] all = rows(op(CONST, 3, 1), op(CONST, 1, 0));
    for (int i = 0; i < 100; i++) {
      all = join(all, rows(op(PAIR, 1, 4, 1), op(VAR, 9, 4), op(ADD, 4, 4, 3)));
    }
    AtomicRuntime x = load(join(all, rows(op(CONST, 9, 0))));
    x.run(0, 303);
    due("200 PLACES", x.count(PLACES), 200);
    due("100 stay", x.collect(), 100);
    duePlace("the first", x, 0, 1, 0, 0);
    for (int p = 1; p < 100; p++) {
      duePlace("in order", x, p, 1, p, pairAt(p - 1));
    }
    due("R(1)", x.register(0, 1), pairAt(99));
    AtomicRuntime edges = load(join(
        rows(op(VAR, 1, 0)), times(198, op(PAIR, 9, 0, 0)), rows(op(CONST, 9, 0), op(VAR, 2, 1))));
    edges.run(0, 201);
    due("the first and the last", edges.collect(), 2);
    due("the first", edges.register(0, 1), varAt(0));
    due("the last", edges.register(0, 2), varAt(1));
    duePlace("the last", edges, 1, 2, varAt(0), 0);
    due("nothing to do", edges.collect(), 2);
    due("the last", edges.register(0, 2), varAt(1));
  }

  private static void valuesFollow() {
    terms("and all VALUES follow");
    // PLACE 0 goes; REGISTERS, a GLOBAL, NESTS, PAIRS, VARS, READS and WRITES have those behind it.
    AtomicRuntime x = load(
        op(PAIR, 9, 0, 0), op(CONST, 9, 0), op(PAIR, 1, 0, 0), op(VAR, 2, 1), op(PAIR, 3, 2, 1), op(PUT, 0, 3),
        op(FORK, 14, 18), op(TRY, 16), op(CONST, 1, 9), op(ATOMIC), op(READ, 4, 2), op(VAR, 5, 4),
        op(WRITE, 5, 3), op(CONST, 5, 0), op(CONST, 4, 0), op(COMMIT), op(STOP), op(STOP), op(PAIR, 6, 3, 2),
        op(ATOMIC), op(READ, 7, 2), op(WRITE, 2, 6), op(RETRY));
    x.run(0, 15);
    x.run(1, 5);
    due("PARKED", x.thread(1, STATE), IS_PARKED);
    due("all but one", x.collect(), 5);
    due("R(2) of THREAD 0", x.register(0, 2), varAt(1));
    due("R(6) of THREAD 1", x.register(1, 6), pairAt(4));
    due("GLOBAL 0", x.global(0), pairAt(2));
    duePlace("the PAIR", x, 0, 1, 0, 0);
    duePlace("a VAR of it", x, 1, 2, pairAt(0), 0);
    duePlace("a PAIR of both", x, 2, 1, varAt(1), pairAt(0));
    duePlace("a VAR that WRITES have", x, 3, 2, pairAt(0), 0);
    duePlace("a PAIR of THREAD 1", x, 4, 1, pairAt(2), varAt(1));
    x.run(0, 1);
    duePlace("WRITES", x, 3, 2, pairAt(2), 1);
    AtomicRuntime thrown = load(
        op(PAIR, 9, 0, 0), op(CONST, 9, 0), op(VAR, 1, 0), op(TRY, 6), op(CONST, 1, 0), op(THROW, 1), op(JUMP, 6));
    thrown.run(0, 5);
    due("in a NEST alone", thrown.collect(), 1);
    thrown.run(0, 1);
    due("R(1) is back", thrown.register(0, 1), varAt(0));
    readsFollow();
    writesFollow();
  }

  private static void readsFollow() {
    // THREAD 1 waits for the second VAR; PLACE 0 goes; THREAD 0 commits to the first, then to the second.
    AtomicRuntime x = load(
        op(PAIR, 9, 0, 0), op(CONST, 9, 0), op(VAR, 1, 0), op(VAR, 2, 0), op(FORK, 14, 12), op(ATOMIC),
        op(WRITE, 1, 14), op(COMMIT), op(ATOMIC), op(WRITE, 2, 14), op(COMMIT), op(STOP), op(ATOMIC),
        op(READ, 3, 2), op(RETRY));
    x.run(0, 5);
    x.run(1, 3);
    due("two VARS", x.collect(), 2);
    x.run(0, 3);
    due("a COMMIT to the first", x.thread(1, STATE), IS_PARKED);
    x.run(0, 3);
    due("a COMMIT to the second", x.thread(1, STATE), IS_READY);
  }

  private static void writesFollow() {
    // No READS, two WRITES; PLACE 0 goes, the VALUES lie before and behind their VARS.
    AtomicRuntime x = load(
        op(PAIR, 9, 0, 0), op(CONST, 9, 0), op(PAIR, 1, 0, 0), op(VAR, 2, 0), op(VAR, 3, 0), op(PAIR, 4, 0, 0),
        op(ATOMIC), op(WRITE, 2, 4), op(WRITE, 3, 1), op(COMMIT));
    x.run(0, 9);
    due("all but one", x.collect(), 4);
    x.run(0, 1);
    duePlace("the first WRITE", x, 1, 2, pairAt(3), 1);
    duePlace("the second WRITE", x, 2, 2, pairAt(0), 1);
  }

  private static void othersBecomeZero() {
    terms("other REGISTERS of THREADS that are DONE or FAILED that have a PAIR or VAR become INT 0");
    int[][] rows = rows(
        op(PAIR, 0, 0, 0), op(MOVE, 1, 0), op(VAR, 2, 0), op(CONST, 3, 33), op(CONST, 4, -1), op(PUT, 0, 2),
        op(VAR, 15, 0));
    for (int[] end : rows(op(STOP), op(RET))) {
      AtomicRuntime x = load(join(rows, rows(end)));
      x.run(0, 8);
      due("before it: R(15)", x.register(0, 15), varAt(2));
      due("R(0) and GLOBAL 0", x.collect(), 2);
      boolean done = end[0] == STOP;
      due("R(0) of op " + end[0], x.register(0, 0), done ? pairAt(0) : 0);
      long[] dues = {0, 0, 33, -1, 0, 0, 0, 0, 0, 0, 0, 0, 0, 0, 0};
      for (int k = 1; k < 16; k++) {
        due("R(" + k + ") of op " + end[0], x.register(0, k), dues[k - 1]);
      }
      due("GLOBAL 0 has its VAR", x.global(0), varAt(1));
    }
    AtomicRuntime others = load(op(PAIR, 1, 0, 0), op(FORK, 14, 3), op(JUMP, 2), op(STOP));
    others.run(0, 2);
    others.run(1, 1);
    due("it stays for THREAD 0", others.collect(), 1);
    due("R(1) of THREAD 0", others.register(0, 1), pairAt(0));
    due("R(1) of THREAD 1", others.register(1, 1), 0);
    // A COLLECTION that comes by itself does it, too.
    AtomicRuntime self = load(op(PAIR, 1, 0, 0), op(FORK, 14, 4), op(PAIR, 2, 0, 0), op(JUMP, 2), op(STOP));
    self.run(0, 2);
    self.run(1, 1);
    self.run(0, 397);
    due("200 PLACES", self.count(PLACES), 200);
    due("R(1) before", self.register(1, 1), pairAt(0));
    self.run(0, 2);
    due("R(1) then", self.register(1, 1), 0);
  }

  private static void noneIsFree() {
    terms("if none is free then: -3.");
    int[][] pairs = times(200, op(PAIR, 1, 1, 0));
    AtomicRuntime x = load(join(pairs, rows(op(PAIR, 2, 0, 0))));
    x.run(0, 201);
    dueThread("201", x, 0, IS_FAILED, -3, 201, 0, 0, 0, 0, -1);
    dueCounts("the COLLECTION counts", x, 201, 1, 200, 0, 0, 1, 201, 0, 0);
    due("its REGISTERS stay till the next", x.register(0, 1), pairAt(199));
    due("the next", x.collect(), 0);
    due("R(1) then", x.register(0, 1), 0);
    AtomicRuntime one = load(join(
        rows(op(VAR, 9, 0)), times(199, op(PAIR, 1, 1, 0)), rows(op(CONST, 9, 0), op(VAR, 2, 1))));
    one.run(0, 202);
    due("one is free", one.thread(0, STATE), IS_READY);
    due("the last", one.register(0, 2), varAt(199));
    duePlace("the last", one, 199, 2, pairAt(198), 0);
    AtomicRuntime nested = load(join(pairs, rows(op(TRY, 0), op(ATOMIC), op(CONST, 1, 0), op(VAR, 2, 0))));
    nested.run(0, 204);
    dueFailed("saved by NESTS alone", nested, 0, -3);
    due("R(15): no TRY has it", nested.register(0, 15), 0);
  }
}
