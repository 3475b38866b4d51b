import java.io.IOException;

/** The table of instructions: for each sentence of it that names a boundary case a test of its own. */
final class BoundaryTableTest extends Bench {
  private static final int MIN = Integer.MIN_VALUE;
  private static final int MAX = Integer.MAX_VALUE;

  public static void main(String[] args) throws IOException {
    stop();
    constants();
    modulo();
    less();
    same();
    jump();
    zero();
    callAndRet();
    sets();
    pair();
    var();
    sort();
    readOfWrites();
    readOfTooNew();
    readGoesToReads();
    write();
    atomic();
    commitAsksForAtomic();
    commitNotValid();
    commitEmpties();
    commitWithoutWrites();
    commitInOrder();
    commitWakes();
    orAndTry();
    endAsksForOrOrTry();
    endGoesOn();
    retryToTheInnermostOr();
    retryRollsBack();
    retryWithoutOr();
    throwCodes();
    throwThroughOr();
    throwToTry();
    throwToAtomicNotValid();
    throwThroughAtomic();
    throwOutOfAll();
    forkMakes();
    forkAnswers();
    print();
    putAndGet();
    notInTransactions();
    onlyInTransactions();
    dueInDocument(args[1]);
    finish("BoundaryTableTest");
  }

  // 0 to 15 and 29.

  private static void stop() {
    terms("0 STOP: DONE (-4 with a NEST).");
    dueThread("STOP", ran(op(STOP)), 0, IS_DONE, 0, 1, 0, 0, 0, 0, -1);
    dueThread("in a call", ran(op(CALL, 1), op(STOP)), 0, IS_DONE, 0, 2, 1, 0, 0, 0, -1);
    dueFailed("in TRY", ran(op(TRY, 9), op(STOP)), 0, -4);
    dueFailed("in ATOMIC", ran(op(ATOMIC), op(STOP)), 0, -4);
    dueFailed("in OR", ran(op(ATOMIC), op(OR, 9), op(STOP)), 0, -4);
    due("behind all NESTS", ran(op(TRY, 9), op(END, 2), op(STOP)).thread(0, STATE), IS_DONE);
  }

  private static void constants() {
    terms("1 CONST R(a) = INT b. 2 MOVE R(a) = R(b).");
    AtomicRuntime x = ran(
        op(CONST, 0, MIN), op(CONST, 15, MAX), op(MOVE, 1, 0), op(MOVE, 2, 15), op(MOVE, 1, 1), op(VAR, 3, 0),
        op(MOVE, 0, 3), op(STOP));
    due("R(0)", x.register(0, 0), varAt(0));
    due("R(1)", x.register(0, 1), MIN);
    due("R(2)", x.register(0, 2), MAX);
  }

  private static long result(int number, int b, int c) {
    return ran(op(CONST, 1, b), op(CONST, 2, c), op(number, 3, 1, 2), op(STOP)).register(0, 3);
  }

  private static void modulo() {
    terms("(modulo 2^32)");
    due("MAX + 1", result(ADD, MAX, 1), MIN);
    due("MIN + -1", result(ADD, MIN, -1), MAX);
    due("MAX + MAX", result(ADD, MAX, MAX), -2);
    due("MIN + MIN", result(ADD, MIN, MIN), 0);
    due("MIN - 1", result(SUB, MIN, 1), MAX);
    due("MAX - -1", result(SUB, MAX, -1), MIN);
    due("0 - MIN", result(SUB, 0, MIN), MIN);
    due("MAX - MIN", result(SUB, MAX, MIN), -1);
    due("MIN * -1", result(MUL, MIN, -1), MIN);
    due("MIN * MIN", result(MUL, MIN, MIN), 0);
    due("MAX * MAX", result(MUL, MAX, MAX), 1);
    due("65,536 * 65,536", result(MUL, 65536, 65536), 0);
    due("65,536 * 32,768", result(MUL, 65536, 32768), MIN);
    due("-1 * -1", result(MUL, -1, -1), 1);
  }

  private static void less() {
    terms("6 LESS R(a) = 1 if INT R(b) is below INT R(c), else 0.");
    due("-1 < 0", result(LESS, -1, 0), 1);
    due("0 < 0", result(LESS, 0, 0), 0);
    due("1 < 0", result(LESS, 1, 0), 0);
    due("MIN < MAX", result(LESS, MIN, MAX), 1);
    due("MAX < MIN", result(LESS, MAX, MIN), 0);
    due("MIN < MIN", result(LESS, MIN, MIN), 0);
    due("MIN < 1", result(LESS, MIN, 1), 1);
    due("MIN < -1", result(LESS, MIN, -1), 1);
    due("0 < -1", result(LESS, 0, -1), 0);
  }

  private static void same() {
    terms("7 SAME R(a) = 1 if R(b) and R(c) are the same INT or PLACE, else 0.");
    due("MIN, MIN", result(SAME, MIN, MIN), 1);
    due("MIN, MAX", result(SAME, MIN, MAX), 0);
    due("0, 0", result(SAME, 0, 0), 1);
    AtomicRuntime x = ran(
        op(PAIR, 1, 0, 0), op(PAIR, 2, 0, 0), op(VAR, 3, 0), op(VAR, 4, 0), op(MOVE, 5, 1), op(MOVE, 6, 3),
        op(SAME, 7, 1, 5), op(SAME, 8, 3, 6), op(SAME, 9, 1, 2), op(SAME, 10, 3, 4), op(SAME, 11, 1, 0),
        op(SAME, 12, 0, 1), op(SAME, 13, 2, 3), op(STOP));
    int[] dues = {1, 1, 0, 0, 0, 0, 0};
    for (int i = 0; i < dues.length; i++) {
      due("R(" + (7 + i) + ")", x.register(0, 7 + i), dues[i]);
    }
  }

  private static void jump() {
    terms("8 JUMP PC = a.");
    for (int a : new int[] {0, 1, 999, 1000, -1, MIN, MAX}) {
      AtomicRuntime x = load(op(JUMP, a));
      x.run(0, 1);
      dueThread("JUMP " + a, x, 0, IS_READY, 0, a, 0, 0, 0, 0, -1);
    }
  }

  private static void zero() {
    terms("9 ZERO PC = b if R(a) is INT 0 (a PAIR or VAR is not).");
    int[][] values = rows(
        op(CONST, 1, 0), op(CONST, 1, 1), op(CONST, 1, -1), op(CONST, 1, MIN), op(PAIR, 1, 0, 0), op(VAR, 1, 0));
    for (int i = 0; i < values.length; i++) {
      AtomicRuntime x = load(values[i], op(ZERO, 1, -7));
      x.run(0, 2);
      due("PC with R(1) number " + i, x.thread(0, PC), i == 0 ? -7 : 2);
      due("it is no FAULT", x.thread(0, STATE), IS_READY);
    }
  }

  private static void callAndRet() {
    terms("10 CALL PC = a, RET comes behind here. 11 RET.");
    AtomicRuntime x = load(op(CALL, 3), op(CALL, 0), op(STOP), op(RET));
    x.run(0, 2);
    dueThread("behind the first", x, 0, IS_READY, 0, 1, 0, 0, 0, 0, -1);
    AtomicRuntime last = load(op(JUMP, 2), op(RET), op(CALL, 1));
    last.run(0, 3);
    due("behind the last INSTRUCTION", last.thread(0, PC), 3);
    last.run(0, 1);
    dueFailed("where there is none", last, 0, -1);
    AtomicRuntime away = load(op(CALL, MIN));
    away.run(0, 1);
    dueThread("CALL to where there is none", away, 0, IS_READY, 0, MIN, 1, 0, 0, 0, -1);
  }

  private static void sets() {
    terms("R(x) is REGISTER x; R(a) = .. sets it.");
    AtomicRuntime x = ran(
        op(CONST, 1, 7), op(ADD, 1, 1, 1), op(MUL, 1, 1, 1), op(SUB, 2, 1, 1), op(LESS, 1, 2, 1), op(SAME, 2, 2, 2),
        op(CONST, 3, 5), op(PAIR, 3, 3, 2), op(PAIR, 4, 3, 3), op(FIRST, 4, 4), op(SECOND, 4, 4), op(STOP));
    due("a LESS of itself", x.register(0, 1), 1);
    due("a SAME of itself", x.register(0, 2), 1);
    due("a PAIR of itself", x.register(0, 3), pairAt(0));
    duePlace("it has the INT", x, 0, 1, 5, 1);
    due("FIRST and SECOND of itself", x.register(0, 4), 1);
    due("the others stay", x.register(0, 0) + x.register(0, 5), 0);
  }

  private static void pair() {
    terms("12 PAIR R(a) = a new one of R(b), R(c). 13 FIRST, 14 SECOND R(a) = that VALUE of PAIR R(b).");
    AtomicRuntime x = ran(
        op(CONST, 1, MIN), op(CONST, 2, MAX), op(PAIR, 3, 1, 2), op(PAIR, 3, 1, 2), op(VAR, 5, 3), op(PAIR, 4, 5, 3),
        op(FIRST, 6, 3), op(SECOND, 7, 3), op(FIRST, 8, 4), op(SECOND, 9, 4), op(STOP));
    due("a new one each time", x.register(0, 3), pairAt(1));
    due("FIRST", x.register(0, 6), MIN);
    due("SECOND", x.register(0, 7), MAX);
    due("FIRST that is a VAR", x.register(0, 8), varAt(2));
    due("SECOND that is a PAIR", x.register(0, 9), pairAt(1));
    dueFailed("FIRST of a VAR", ran(op(VAR, 1, 0), op(FIRST, 2, 1)), 0, -1);
    dueFailed("SECOND of an INT", ran(op(SECOND, 2, 1)), 0, -1);
  }

  private static void var() {
    terms("15 VAR R(a) = a new one with R(b), VERSION 0.");
    AtomicRuntime x = load(
        op(VAR, 1, 1), op(ATOMIC), op(WRITE, 1, 1), op(COMMIT), op(VAR, 1, 1), op(ATOMIC), op(VAR, 1, 1),
        op(READ, 2, 1), op(COMMIT));
    x.run(0, 9);
    duePlace("the first", x, 0, 2, varAt(0), 1);
    duePlace("its REGISTER is its VALUE, the CLOCK 1", x, 1, 2, varAt(0), 0);
    duePlace("in a TRANSACTION", x, 2, 2, varAt(1), 0);
    due("no ABORTS", x.count(ABORTS), 0);
  }

  private static void sort() {
    terms("29 SORT R(a) = 0, 1, 2: R(b) is an INT, PAIR, VAR.");
    AtomicRuntime x = ran(
        op(CONST, 1, MIN), op(PAIR, 2, 0, 0), op(VAR, 3, 0), op(SORT, 4, 1), op(SORT, 5, 2), op(SORT, 6, 3),
        op(SORT, 3, 3), op(STOP));
    due("INT", x.register(0, 4), 0);
    due("PAIR", x.register(0, 5), 1);
    due("VAR", x.register(0, 6), 2);
    due("of itself", x.register(0, 3), 2);
  }

  // 16 and 17.

  private static void readOfWrites() {
    terms("16 READ R(a) = of VAR R(b): its last VALUE in WRITES");
    AtomicRuntime x = load(withRival(
        op(VAR, 5, 1), op(ATOMIC), op(WRITE, 0, 14), op(WRITE, 5, 5), op(WRITE, 0, 1), op(WRITE, 5, 1),
        op(READ, 2, 0)));
    x.run(0, 9);
    rivalCommits(x);
    x.run(0, 1);
    due("the last of two", x.register(0, 2), 3);
    due("it is not in READS", x.thread(0, READS), 0);
    due("its VERSION is not looked at", x.count(ABORTS), 0);
    AtomicRuntime rolled = load(
        op(VAR, 0, 1), op(ATOMIC), op(OR, 5), op(WRITE, 0, 0), op(RETRY), op(READ, 2, 0));
    rolled.run(0, 6);
    due("of none that is ROLLED BACK", rolled.register(0, 2), 0);
    due("but of the VAR", rolled.thread(0, READS), 1);
    AtomicRuntime full = load(join(readsOf(40), rows(op(VAR, 0, 2), op(WRITE, 0, 1), op(READ, 7, 0))));
    full.run(0, 204);
    due("with 40 READS too", full.thread(0, STATE), IS_READY);
  }

  private static void readOfTooNew() {
    terms("else, if its VERSION is above START: AGAIN (ABORTS is 1 more), before -5 is looked at");
    AtomicRuntime x = load(withRival(op(ATOMIC), op(CONST, 5, 5), op(READ, 2, 0)));
    x.run(0, 5);
    rivalCommits(x);
    x.run(0, 1);
    dueThread("1 above START", x, 0, IS_READY, 0, 4, 0, 1, 0, 0, 1);
    due("ABORTS", x.count(ABORTS), 1);
    due("R(2) stays", x.register(0, 2), 0);
    due("REGISTERS are back", x.register(0, 5), 0);
    x.run(0, 2);
    due("not above START any more", x.register(0, 2), 55);
    due("ABORTS", x.count(ABORTS), 1);

    AtomicRuntime full = load(join(rows(op(VAR, 9, 2), op(FORK, 10, 300)), readsOf(40), rows(op(READ, 8, 9))));
    add(full, times(300 - full.count(INSTRUCTIONS), op(STOP)));
    add(full, op(ATOMIC), op(WRITE, 9, 2), op(COMMIT));
    full.run(0, 203);
    full.run(1, 3);
    due("40 READS", full.thread(0, READS), 40);
    full.run(0, 1);
    dueThread("with 40 READS", full, 0, IS_READY, 0, 83, 0, 1, 0, 0, 1);
    full.run(0, 121);
    dueFailed("then -5", full, 0, -5);
  }

  private static void readGoesToReads() {
    terms("else its VALUE, and it is in READS.");
    AtomicRuntime x = load(op(CONST, 1, MIN), op(VAR, 0, 1), op(ATOMIC), op(READ, 0, 0), op(CONST, 1, 1), op(RETRY));
    x.run(0, 4);
    due("VALUE in the REGISTER of the VAR", x.register(0, 0), MIN);
    due("READS", x.thread(0, READS), 1);
    AtomicRuntime before = load(
        op(VAR, 0, 1), op(ATOMIC), op(READ, 2, 0), op(WRITE, 0, 1), op(READ, 2, 0), op(READ, 3, 0));
    before.run(0, 6);
    dueThread("once, and its WRITE", before, 0, IS_READY, 0, 6, 0, 1, 1, 1, 0);
  }

  private static void write() {
    terms("17 WRITE VAR R(a), R(b) come to WRITES, at its end (also if that VAR is there already).");
    AtomicRuntime x = load(
        op(VAR, 0, 1), op(CONST, 1, 1), op(CONST, 2, 2), op(ATOMIC), op(WRITE, 0, 1), op(WRITE, 0, 2),
        op(WRITE, 0, 0), op(READ, 3, 0), op(COMMIT));
    x.run(0, 7);
    due("three of one VAR", x.thread(0, WRITES), 3);
    duePlace("nothing is done", x, 0, 2, 0, 0);
    x.run(0, 1);
    due("the last of them", x.register(0, 3), varAt(0));
    x.run(0, 1);
    duePlace("the VAR itself is its VALUE", x, 0, 2, varAt(0), 1);
    AtomicRuntime full = ran(join(rows(op(VAR, 0, 1), op(ATOMIC)), times(41, op(WRITE, 0, 1))));
    dueFailed("41 of one VAR", full, 0, -5);
  }

  // 18 and 19.

  private static void atomic() {
    terms("18 ATOMIC: a NEST (alt is PC), an attempt begins.");
    AtomicRuntime x = load(
        op(VAR, 0, 1), op(ATOMIC), op(READ, 2, 0), op(WRITE, 0, 1), op(COMMIT), op(TRY, 9), op(ATOMIC),
        op(RETRY));
    x.run(0, 7);
    dueThread("behind ATOMIC", x, 0, IS_READY, 0, 7, 0, 2, 0, 0, 1);
    AtomicRuntime again = load(withRival(join(
        rows(op(JUMP, 50)), times(46, op(STOP)), rows(op(ATOMIC), op(READ, 2, 0), op(COMMIT)))));
    again.run(0, 6);
    rivalCommits(again);
    again.run(0, 1);
    due("alt", again.thread(0, PC), 51);
  }

  private static void commitAsksForAtomic() {
    terms("19 COMMIT (the innermost NEST is ATOMIC)");
    for (int open : new int[] {OR, TRY}) {
      dueFailed("in " + open, ran(op(ATOMIC), op(open, 9), op(COMMIT)), 0, -4);
      AtomicRuntime closed = ran(op(ATOMIC), op(open, 9), op(END, 3), op(COMMIT), op(STOP));
      due("behind the END of " + open, closed.thread(0, STATE), IS_DONE);
      AtomicRuntime x = load(withRival(op(ATOMIC), op(READ, 2, 0), op(open, 9), op(COMMIT)));
      x.run(0, 6);
      rivalCommits(x);
      x.run(0, 1);
      dueFailed("not VALID, in " + open, x, 0, -4);
      due("no ABORT", x.count(ABORTS), 0);
    }
    dueFailed("a second one", ran(op(TRY, 9), op(ATOMIC), op(COMMIT), op(COMMIT)), 0, -4);
  }

  private static void commitNotValid() {
    terms("not VALID: AGAIN, ABORTS is 1 more. Else");
    for (int[] more : rows(op(WRITE, 0, 1), op(MOVE, 1, 1))) {
      AtomicRuntime x = load(withRival(op(ATOMIC), op(READ, 2, 0), more, op(COMMIT)));
      x.run(0, 6);
      rivalCommits(x);
      x.run(0, 1);
      dueThread("AGAIN", x, 0, IS_READY, 0, 4, 0, 1, 0, 0, 1);
      due("ABORTS", x.count(ABORTS), 1);
      due("CLOCK stays", x.count(CLOCK), 1);
      duePlace("no WRITE is done", x, 0, 2, 55, 1);
      x.run(0, 3);
      due("the second time", x.thread(0, NESTS), 0);
      due("ABORTS", x.count(ABORTS), 1);
    }
  }

  private static void commitEmpties() {
    terms("Else the NEST goes, and READS and WRITES are empty then");
    AtomicRuntime x = load(
        op(VAR, 0, 1), op(TRY, 9), op(ATOMIC), op(READ, 2, 0), op(WRITE, 0, 2), op(COMMIT));
    x.run(0, 6);
    dueThread("the TRY stays", x, 0, IS_READY, 0, 6, 0, 1, 0, 0, -1);
  }

  /** THREAD 1 waits for the VAR at 0; THREAD 0, in an ATOMIC, does those INSTRUCTIONS. */
  private static AtomicRuntime watched(int[]... rows) {
    AtomicRuntime x = load(join(
        rows(op(VAR, 0, 1), op(FORK, 14, 4), op(ATOMIC), op(JUMP, 7), op(ATOMIC), op(READ, 2, 0), op(RETRY)),
        rows));
    x.run(0, 4);
    x.run(1, 3);
    due("PARKED", x.thread(1, STATE), IS_PARKED);
    x.run(0, rows.length);
    return x;
  }

  private static void commitWithoutWrites() {
    terms("if there were WRITES, CLOCK is 1 more");
    int[][][] none = {
      rows(op(COMMIT)),
      rows(op(READ, 2, 0), op(COMMIT)),
      rows(op(READ, 2, 0), op(OR, 11), op(WRITE, 0, 1), op(RETRY), op(COMMIT)),
      rows(op(TRY, 10), op(WRITE, 0, 1), op(THROW, 1), op(COMMIT))
    };
    for (int[][] rows : none) {
      AtomicRuntime x = watched(rows);
      due("no WRITES: no NEST", x.thread(0, NESTS), 0);
      due("no WRITES: CLOCK", x.count(CLOCK), 0);
      duePlace("no WRITES", x, 0, 2, 0, 0);
      due("no WRITES: who waits", x.thread(1, STATE), IS_PARKED);
    }
    AtomicRuntime same = watched(op(WRITE, 0, 1), op(COMMIT));
    due("a WRITE of the VALUE that is there", same.count(CLOCK), 1);
    duePlace("a WRITE of the VALUE that is there", same, 0, 2, 0, 1);
    due("a WRITE of the VALUE that is there", same.thread(1, STATE), IS_READY);
    AtomicRuntime three = watched(op(WRITE, 0, 1), op(VAR, 5, 1), op(WRITE, 5, 1), op(WRITE, 0, 1), op(COMMIT));
    due("three WRITES", three.count(CLOCK), 1);
  }

  private static void commitInOrder() {
    terms("each VAR of them gets its VALUE and that VERSION, in order");
    AtomicRuntime x = ran(
        op(VAR, 0, 15), op(VAR, 1, 15), op(VAR, 2, 15), op(ATOMIC), op(WRITE, 0, 1), op(COMMIT), op(ATOMIC),
        op(WRITE, 0, 0), op(WRITE, 1, 2), op(WRITE, 0, 15), op(WRITE, 1, 1), op(WRITE, 0, 2), op(COMMIT), op(STOP));
    duePlace("the last of three", x, 0, 2, varAt(2), 2);
    duePlace("the last of two", x, 1, 2, varAt(1), 2);
    duePlace("none", x, 2, 2, 0, 0);
    due("CLOCK", x.count(CLOCK), 2);
  }

  private static void commitWakes() {
    terms("each PARKED THREAD that has one of them in its READS is READY, and AGAIN.");
    int[][] begin = rows(
        op(VAR, 0, 15), op(VAR, 1, 15), op(VAR, 2, 15), op(FORK, 14, 50), op(FORK, 14, 60), op(FORK, 14, 70),
        op(FORK, 14, 80), op(FORK, 14, 90), op(ATOMIC), op(WRITE, 0, 14), op(WRITE, 1, 14), op(COMMIT), op(STOP));
    AtomicRuntime x = load(join(begin, times(50 - begin.length, op(STOP)),
        ten(op(ATOMIC), op(READ, 3, 2), op(READ, 3, 1), op(RETRY)),
        ten(op(ATOMIC), op(OR, 63), op(READ, 3, 0), op(RETRY), op(RETRY)),
        ten(op(ATOMIC), op(READ, 3, 2), op(WRITE, 0, 15), op(READ, 3, 0), op(RETRY)),
        ten(op(ATOMIC), op(RETRY)),
        ten(op(ATOMIC), op(READ, 3, 0), op(READ, 3, 1))));
    x.run(0, 8);
    for (int t = 1; t <= 4; t++) {
      x.run(t, 9);
      due("THREAD " + t + " waits", x.thread(t, STATE), IS_PARKED);
    }
    x.run(5, 3);
    x.run(0, 5);
    dueThread("the second of two", x, 1, IS_READY, 0, 51, 0, 1, 0, 0, 1);
    dueThread("read in an OR that is gone", x, 2, IS_READY, 0, 61, 0, 1, 0, 0, 1);
    dueThread("in WRITES alone", x, 3, IS_PARKED, 0, 75, 0, 1, 1, 1, 0);
    dueThread("no READS", x, 4, IS_PARKED, 0, 82, 0, 1, 0, 0, 0);
    dueThread("READY before", x, 5, IS_READY, 0, 93, 0, 1, 2, 0, 0);
    due("no ABORTS", x.count(ABORTS), 0);
    due("REGISTERS are back", x.register(1, 3), 0);
  }

  private static int[][] ten(int[]... rows) {
    return join(rows, times(10 - rows.length, op(STOP)));
  }

  // 20 to 24.

  private static void orAndTry() {
    terms("20 OR, 22 TRY: a NEST, alt a.");
    for (int a : new int[] {0, 4, -1, 1000, MIN, MAX}) {
      AtomicRuntime or = load(op(ATOMIC), op(OR, a), op(RETRY));
      or.run(0, 3);
      dueThread("OR " + a, or, 0, IS_READY, 0, a, 0, 1, 0, 0, 0);
      AtomicRuntime caught = load(op(TRY, a), op(THROW, 1));
      caught.run(0, 2);
      dueThread("TRY " + a, caught, 0, IS_READY, 0, a, 0, 0, 0, 0, -1);
    }
  }

  private static void endAsksForOrOrTry() {
    terms("21 END (the innermost NEST is OR or TRY)");
    dueFailed("no NEST", ran(op(END, 1), op(STOP)), 0, -4);
    dueFailed("no NEST any more", ran(op(TRY, 9), op(END, 2), op(END, 3), op(STOP)), 0, -4);
    dueFailed("ATOMIC", ran(op(ATOMIC), op(END, 2), op(STOP)), 0, -4);
    dueFailed("ATOMIC in TRY", ran(op(TRY, 9), op(ATOMIC), op(END, 3), op(STOP)), 0, -4);
    dueFailed("ATOMIC again", ran(op(ATOMIC), op(OR, 9), op(END, 3), op(END, 4), op(STOP)), 0, -4);
    due("TRY", ran(op(TRY, 9), op(END, 2), op(STOP)).thread(0, STATE), IS_DONE);
    due("OR in TRY", ran(op(ATOMIC), op(TRY, 9), op(OR, 9), op(END, 4), op(RETRY)).thread(0, NESTS), 2);
  }

  private static void endGoesOn() {
    terms("it goes, WRITES stay, PC = a.");
    for (int open : new int[] {OR, TRY}) {
      for (int a : new int[] {0, 9, -1, MIN, MAX}) {
        AtomicRuntime x = load(
            op(VAR, 0, 1), op(CALL, 2), op(ATOMIC), op(READ, 2, 0), op(open, 9), op(WRITE, 0, 1), op(CALL, 7),
            op(CONST, 5, 5), op(END, a));
        x.run(0, 9);
        dueThread("END " + a, x, 0, IS_READY, 0, a, 2, 1, 1, 1, 0);
        due("REGISTERS stay", x.register(0, 5), 5);
      }
    }
  }

  private static void retryToTheInnermostOr() {
    terms("23 RETRY: the innermost OR that is above the ATOMIC NEST (TRYS above it do not matter)");
    AtomicRuntime x = load(
        op(TRY, 99), op(ATOMIC), op(TRY, 98), op(OR, 10), op(TRY, 97), op(OR, 9), op(TRY, 96), op(TRY, 95),
        op(RETRY), op(RETRY), op(RETRY));
    x.run(0, 9);
    dueThread("the innermost of two", x, 0, IS_READY, 0, 9, 0, 5, 0, 0, 0);
    x.run(0, 1);
    dueThread("the other", x, 0, IS_READY, 0, 10, 0, 3, 0, 0, 0);
    x.run(0, 1);
    dueThread("TRYS alone", x, 0, IS_PARKED, 0, 11, 0, 3, 0, 0, 0);
    AtomicRuntime ended = load(op(ATOMIC), op(OR, 9), op(OR, 8), op(END, 4), op(RETRY));
    ended.run(0, 5);
    due("not one that has its END", ended.thread(0, PC), 9);
  }

  private static void retryRollsBack() {
    terms("ROLLED BACK to it, READS stay, PC is its alt");
    AtomicRuntime x = load(withRival(
        op(ATOMIC), op(WRITE, 0, 1), op(VAR, 6, 1), op(OR, 50), op(READ, 2, 6), op(WRITE, 6, 1), op(CALL, 10),
        op(RETRY)));
    x.run(0, 11);
    dueThread("back", x, 0, IS_READY, 0, 50, 0, 1, 1, 1, 0);
    due("R(2) is back", x.register(0, 2), 0);
    due("R(6) is from before the OR", x.register(0, 6), varAt(1));
    AtomicRuntime invalid = load(withRival(op(ATOMIC), op(OR, 6), op(READ, 2, 0), op(RETRY)));
    invalid.run(0, 6);
    rivalCommits(invalid);
    invalid.run(0, 1);
    dueThread("not VALID", invalid, 0, IS_READY, 0, 6, 0, 1, 1, 0, 0);
    due("no ABORT", invalid.count(ABORTS), 0);
    due("no VALUE of before", invalid.register(0, 2), 0);
  }

  private static void retryWithoutOr() {
    terms("there is none: VALID: PARKED, else AGAIN, ABORTS is 1 more.");
    AtomicRuntime x = load(withRival(op(ATOMIC), op(TRY, 99), op(READ, 2, 0), op(WRITE, 0, 1), op(RETRY)));
    x.run(0, 8);
    dueThread("VALID", x, 0, IS_PARKED, 0, 8, 0, 2, 1, 1, 0);
    due("REGISTERS stay", x.register(0, 2), 3);
    due("no ABORT", x.count(ABORTS), 0);
    dueThread("no READS", ran(op(ATOMIC), op(RETRY)), 0, IS_PARKED, 0, 2, 0, 1, 0, 0, 0);
    AtomicRuntime y = load(withRival(op(ATOMIC), op(TRY, 99), op(READ, 2, 0), op(RETRY)));
    y.run(0, 6);
    rivalCommits(y);
    y.run(0, 1);
    dueThread("not VALID", y, 0, IS_READY, 0, 4, 0, 1, 0, 0, 1);
    due("an ABORT", y.count(ABORTS), 1);
    AtomicRuntime old = load(withRival(op(ATOMIC), op(OR, 7), op(READ, 2, 0), op(RETRY), op(RETRY)));
    old.run(0, 7);
    rivalCommits(old);
    old.run(0, 1);
    due("READS of an OR that is gone count", old.count(ABORTS), 1);
  }

  private static void throwCodes() {
    terms("a code, 0 or more (below 0: FAULT -1)");
    for (int code : new int[] {0, 1, MAX}) {
      AtomicRuntime x = ran(op(CONST, 1, code), op(TRY, 3), op(THROW, 1), op(STOP));
      due("caught " + code, x.register(0, 15), code);
      due("DONE", x.thread(0, STATE), IS_DONE);
      dueFailed("thrown " + code, ran(op(CONST, 1, code), op(THROW, 1)), 0, code);
    }
    for (int code : new int[] {-1, -2, MIN}) {
      AtomicRuntime x = ran(op(CONST, 1, code), op(TRY, 3), op(THROW, 1), op(STOP));
      dueFailed("below 0: " + code, x, 0, -1);
      due("no TRY has it", x.register(0, 15), 0);
    }
  }

  private static void throwThroughOr() {
    terms("OR goes (REGISTERS, calls and WRITES stay)");
    AtomicRuntime x = load(withRival(
        op(ATOMIC), op(READ, 2, 0), op(OR, 99), op(CONST, 5, 5), op(CALL, 8), op(OR, 99), op(WRITE, 0, 1), op(CALL, 11),
        op(CONST, 6, 6), op(THROW, 1)));
    x.run(0, 13);
    dueThread("out of all", x, 0, IS_FAILED, 3, 13, 2, 0, 0, 0, -1);
    due("REGISTERS stay", x.register(0, 5) + x.register(0, 6), 11);
    AtomicRuntime y = load(withRival(
        op(ATOMIC), op(READ, 2, 0), op(TRY, 60), op(OR, 99), op(OR, 99), op(THROW, 1)));
    y.run(0, 8);
    rivalCommits(y);
    y.run(0, 1);
    dueThread("READS are not looked at", y, 0, IS_READY, 0, 60, 0, 1, 1, 0, 0);
  }

  private static void throwToTry() {
    terms("TRY: ROLLED BACK to it, R(15) = the code, PC is its alt: done");
    AtomicRuntime x = load(
        op(CONST, 1, 8), op(CONST, 15, 7), op(TRY, 50), op(TRY, 60), op(CONST, 1, 9), op(CALL, 6), op(THROW, 1));
    x.run(0, 7);
    dueThread("the innermost", x, 0, IS_READY, 0, 60, 0, 1, 0, 0, -1);
    due("R(15)", x.register(0, 15), 9);
    due("R(1)", x.register(0, 1), 8);
    add(x, times(60 - x.count(INSTRUCTIONS), op(STOP)));
    add(x, op(THROW, 15));
    x.run(0, 1);
    dueThread("the other", x, 0, IS_READY, 0, 50, 0, 0, 0, 0, -1);
    due("R(15)", x.register(0, 15), 9);
    AtomicRuntime y = load(withRival(op(ATOMIC), op(READ, 2, 0), op(TRY, 60), op(WRITE, 0, 1), op(THROW, 1)));
    y.run(0, 7);
    rivalCommits(y);
    y.run(0, 1);
    dueThread("not VALID", y, 0, IS_READY, 0, 60, 0, 1, 1, 0, 0);
    due("READS are not looked at", y.count(ABORTS), 0);
  }

  private static void throwToAtomicNotValid() {
    terms("ATOMIC: not VALID: AGAIN, ABORTS is 1 more: done");
    AtomicRuntime x = load(withRival(op(TRY, 60), op(ATOMIC), op(READ, 2, 0), op(OR, 99), op(WRITE, 0, 1), op(THROW, 1)));
    x.run(0, 8);
    rivalCommits(x);
    x.run(0, 1);
    dueThread("AGAIN", x, 0, IS_READY, 0, 5, 0, 2, 0, 0, 1);
    due("ABORTS", x.count(ABORTS), 1);
    due("no TRY has it", x.register(0, 15), 0);
    x.run(0, 4);
    dueThread("the second time", x, 0, IS_READY, 0, 60, 0, 0, 0, 0, -1);
    due("ABORTS", x.count(ABORTS), 1);
    due("R(15)", x.register(0, 15), 3);
  }

  private static void throwThroughAtomic() {
    terms("else it goes, READS and WRITES are empty.");
    AtomicRuntime x = load(
        op(CONST, 1, 3), op(VAR, 0, 1), op(CALL, 3), op(TRY, 60), op(CALL, 5), op(CONST, 5, 5), op(ATOMIC),
        op(READ, 2, 0), op(WRITE, 0, 5), op(THROW, 1));
    x.run(0, 10);
    dueThread("to the TRY around it", x, 0, IS_READY, 0, 60, 1, 0, 0, 0, -1);
    duePlace("no WRITE is done", x, 0, 2, 3, 0);
    due("R(5) is of the TRY", x.register(0, 5), 0);
    due("CLOCK stays", x.count(CLOCK), 0);
    add(x, times(60 - x.count(INSTRUCTIONS), op(STOP)));
    add(x, op(ATOMIC), op(COMMIT));
    x.run(0, 2);
    dueThread("the next TRANSACTION has none of it", x, 0, IS_READY, 0, 62, 1, 0, 0, 0, -1);
    due("CLOCK stays", x.count(CLOCK), 0);
  }

  private static void throwOutOfAll() {
    terms("None: FAILED by the code.");
    dueThread("no NEST", ran(op(CONST, 1, 7), op(THROW, 1)), 0, IS_FAILED, 7, 2, 0, 0, 0, 0, -1);
    dueThread("ATOMIC alone", ran(op(ATOMIC), op(THROW, 1)), 0, IS_FAILED, 0, 2, 0, 0, 0, 0, -1);
    AtomicRuntime ended = ran(op(CONST, 1, 7), op(TRY, 9), op(END, 3), op(THROW, 1));
    dueThread("a TRY that has its END", ended, 0, IS_FAILED, 7, 4, 0, 0, 0, 0, -1);
    AtomicRuntime gone = ran(op(CONST, 1, 7), op(TRY, 3), op(THROW, 1), op(THROW, 1));
    dueThread("a TRY that had one", gone, 0, IS_FAILED, 7, 4, 0, 0, 0, 0, -1);
    due("R(15) of that", gone.register(0, 15), 7);
    due("no STEP more", gone.run(0, 1), 0);
  }

  // 25 to 28.

  private static void forkMakes() {
    terms("25 FORK: a new THREAD, READY, PC b, without calls and NESTS, with copies of the REGISTERS");
    for (int b : new int[] {0, 7, 1000, -1, MIN, MAX}) {
      AtomicRuntime x = load(
          op(VAR, 0, 1), op(CONST, 5, MIN), op(CONST, 15, MAX), op(CALL, 4), op(TRY, 9), op(FORK, 1, b),
          op(CONST, 5, 1));
      x.run(0, 6);
      dueThread("FORK " + b, x, 1, IS_READY, 0, b, 0, 0, 0, 0, -1);
      dueThread("and who made it", x, 0, IS_READY, 0, 6, 1, 1, 0, 0, -1);
      x.run(0, 1);
      due("R(0) of the new one", x.register(1, 0), varAt(0));
      due("R(5) is a copy", x.register(1, 5), MIN);
      due("R(15) of the new one", x.register(1, 15), MAX);
    }
  }

  private static void forkAnswers() {
    terms("R(a) = its number (in it, too), or -1 if there are 16.");
    AtomicRuntime x = load(join(times(16, op(FORK, 15, 20)), rows(op(STOP))));
    for (int t = 1; t < 16; t++) {
      x.run(0, 1);
      due("number", x.register(0, 15), t);
      due("in it, too", x.register(t, 15), t);
    }
    x.run(0, 1);
    dueThread("16 are there", x, 0, IS_READY, 0, 16, 0, 0, 0, 0, -1);
    due("-1", x.register(0, 15), -1);
    due("-1 in it alone", x.register(15, 15), 15);
    AtomicRuntime rest = load(join(times(16, op(FORK, 15, 17)), rows(op(STOP), op(STOP))));
    rest.run(0, 15);
    for (int t = 1; t < 16; t++) {
      rest.run(t, 1);
    }
    rest.run(0, 1);
    due("16 are there, DONE or not", rest.register(0, 15), -1);
  }

  private static void print() {
    terms("26 PRINT INT R(a) comes to the OUTPUT, of which the last 200 are kept.");
    AtomicRuntime x = load(op(CONST, 1, 1), op(PRINT, 2), op(ADD, 2, 2, 1), op(JUMP, 1));
    x.run(0, 500);
    x.run(0, 99);
    due("200 are kept", x.count(PRINTED), 200);
    due("the first", x.output(0), 0);
    x.run(0, 3);
    due("200 are kept still", x.count(PRINTED), 200);
    due("the first goes", x.output(0), 1);
    due("the last", x.output(199), 200);
    AtomicRuntime ends = ran(op(CONST, 1, MIN), op(PRINT, 1), op(CONST, 1, MAX), op(PRINT, 1), op(STOP));
    due("the least INT", ends.output(0), MIN);
    due("the greatest INT", ends.output(1), MAX);
    AtomicRuntime bad = ran(op(VAR, 1, 0), op(PRINT, 1));
    due("a VAR does not come to it", bad.count(PRINTED), 0);
  }

  private static void putAndGet() {
    terms("27 PUT GLOBAL a = R(b). 28 GET R(a) = GLOBAL b.");
    AtomicRuntime x = ran(
        op(CONST, 1, MIN), op(PUT, 0, 1), op(VAR, 2, 0), op(PUT, 7, 2), op(GET, 3, 7), op(GET, 15, 0), op(GET, 1, 3),
        op(STOP));
    due("R(3)", x.register(0, 3), varAt(0));
    due("R(15)", x.register(0, 15), MIN);
    due("R(1), of one that has none", x.register(0, 1), 0);
    for (int k : new int[] {-1, 8, MIN, MAX}) {
      dueFailed("PUT " + k, ran(op(PUT, k, 0)), 0, -1);
      dueFailed("GET " + k, ran(op(GET, 0, k)), 0, -1);
    }
  }

  /** Whether that op, with operands that fit, is FAULT -4 in those NESTS. */
  private static void dueNestFault(int number, boolean want, int[]... nests) {
    AtomicRuntime x = load(join(
        rows(op(CONST, 1, 1), op(PAIR, 2, 1, 1), op(VAR, 3, 1)), nests, rows(fitting(number))));
    x.run(0, 4 + nests.length);
    boolean got = x.thread(0, CODE) == -4;
    due("op " + number + " behind " + nests.length + " INSTRUCTIONS", got ? 1 : 0, want ? 1 : 0);
    if (got) {
      due("no new THREAD, nothing printed", x.count(THREADS) + x.count(PRINTED), 1);
      due("GLOBAL stays", x.global(1), 0);
    }
  }

  private static boolean isOf(int number, int... numbers) {
    for (int one : numbers) {
      if (one == number) {
        return true;
      }
    }
    return false;
  }

  private static void notInTransactions() {
    terms("In a TRANSACTION -4: STOP, ATOMIC, FORK, PRINT, PUT");
    for (int number = 0; number < 30; number++) {
      boolean not = isOf(number, STOP, ATOMIC, FORK, PRINT, PUT);
      dueNestFault(number, not || number == END, op(ATOMIC));
      dueNestFault(number, not || number == END, op(TRY, 9), op(ATOMIC));
      dueNestFault(number, not || number == COMMIT, op(ATOMIC), op(OR, 9));
      dueNestFault(number, not || number == COMMIT, op(ATOMIC), op(TRY, 9));
    }
  }

  private static void onlyInTransactions() {
    terms("without one: READ, WRITE, COMMIT, RETRY, OR.");
    for (int number = 0; number < 30; number++) {
      boolean only = isOf(number, READ, WRITE, COMMIT, RETRY, OR);
      dueNestFault(number, only || number == END);
      dueNestFault(number, only || number == STOP, op(TRY, 9));
      dueNestFault(number, only || number == END, op(ATOMIC), op(COMMIT));
      dueNestFault(number, only || number == END, op(TRY, 6), op(ATOMIC), op(THROW, 1));
    }
  }
}
