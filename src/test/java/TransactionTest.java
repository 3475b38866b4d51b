/** Nests and transactions: attempts, commits, aborts, waiting, alternatives, exceptions. */
final class TransactionTest extends Bench {
  public static void main(String[] args) {
    readsAndWrites();
    readIsValidated();
    commit();
    commitAborts();
    commitWakes();
    wokenBeginsAgain();
    whatIsNotAllowed();
    nestsAreLimited();
    logsAreLimited();
    abortGoesBeforeTheLimit();
    orAndEnd();
    retry();
    retryAborts();
    tryAndThrow();
    throwLeavesOr();
    throwLeavesInvalidOr();
    throwLeavesAtomic();
    throwAborts();
    callsComeBack();
    faultsEndAll();
    finish("TransactionTest");
  }

  private static void readsAndWrites() {
    AtomicRuntime x = load(
        op(CONST, 1, 7), op(VAR, 0, 1), op(ATOMIC), op(READ, 2, 0), op(READ, 3, 0), op(CONST, 1, 8),
        op(WRITE, 0, 1), op(CONST, 1, 9), op(WRITE, 0, 1), op(READ, 4, 0), op(VAR, 5, 1),
        op(WRITE, 5, 2), op(READ, 6, 5), op(COMMIT), op(STOP));
    x.run(0, 5);
    due("READ", x.register(0, 2), 7);
    due("each once", x.thread(0, READS), 1);
    x.run(0, 5);
    due("of the last WRITE", x.register(0, 4), 9);
    due("a WRITE each time", x.thread(0, WRITES), 2);
    due("the VAR has its VALUE still", x.place(0, 1), 7);
    x.run(0, 3);
    due("of WRITES", x.register(0, 6), 7);
    due("of WRITES is not in READS", x.thread(0, READS), 1);
    x.run(0, 1);
    due("the last VALUE", x.place(0, 1), 9);
    due("VERSION", x.place(0, 2), 1);
    due("VERSION of the other", x.place(1, 2), 1);
    due("CLOCK, once", x.count(CLOCK), 1);
    due("no NEST", x.thread(0, NESTS), 0);
    due("no READS", x.thread(0, READS), 0);
    due("no WRITES", x.thread(0, WRITES), 0);
    due("registers stay", x.register(0, 4), 9);
  }

  private static void readIsValidated() {
    AtomicRuntime z = load(withRival(
        op(CALL, 4), op(ATOMIC), op(TRY, 0), op(CONST, 5, 1), op(CALL, 8), op(READ, 2, 0),
        op(END, 10), op(COMMIT), op(STOP)));
    z.run(0, 8);
    due("calls within", z.thread(0, CALLS), 2);
    rivalCommits(z);
    due("one step", z.run(0, 1), 1);
    due("ABORTS", z.count(ABORTS), 1);
    due("behind ATOMIC", z.thread(0, PC), 5);
    due("ATOMIC stays", z.thread(0, NESTS), 1);
    due("calls are back", z.thread(0, CALLS), 1);
    due("registers are back", z.register(0, 5), 0);
    due("START is the CLOCK", z.thread(0, START), 1);
    z.run(0, 4);
    due("now it reads", z.register(0, 2), 55);
    due("READS", z.thread(0, READS), 1);
    z.run(0, 2);
    due("committed", z.thread(0, NESTS), 0);

    AtomicRuntime again = load(withRival(op(ATOMIC), op(READ, 2, 0), op(READ, 3, 0), op(COMMIT), op(STOP)));
    again.run(0, 5);
    rivalCommits(again);
    again.run(0, 1);
    due("a VAR of READS is looked at too", again.count(ABORTS), 1);
    due("READS are empty", again.thread(0, READS), 0);
    due("R(2) is back", again.register(0, 2), 0);

    AtomicRuntime own = load(withRival(op(ATOMIC), op(WRITE, 0, 1), op(READ, 3, 0), op(COMMIT), op(STOP)));
    own.run(0, 5);
    rivalCommits(own);
    own.run(0, 1);
    due("its own WRITE is not validated", own.register(0, 3), 3);
    own.run(0, 1);
    due("a blind WRITE commits", own.place(0, 1), 3);
    due("with the next VERSION", own.place(0, 2), 2);
    due("no ABORTS", own.count(ABORTS), 0);
  }

  private static void commit() {
    AtomicRuntime x = ran(
        op(VAR, 0, 1), op(ATOMIC), op(READ, 2, 0), op(COMMIT), op(ATOMIC), op(COMMIT), op(STOP));
    due("CLOCK without WRITES", x.count(CLOCK), 0);
    due("DONE", x.thread(0, STATE), IS_DONE);
    AtomicRuntime y = ran(
        op(VAR, 0, 1), op(TRY, 0), op(ATOMIC), op(CONST, 2, 6), op(WRITE, 0, 2), op(COMMIT),
        op(END, 7), op(ATOMIC), op(WRITE, 0, 1), op(COMMIT), op(STOP));
    due("ATOMIC in TRY", y.thread(0, STATE), IS_DONE);
    due("two commits", y.count(CLOCK), 2);
    due("the last VERSION", y.place(0, 2), 2);
    due("the last VALUE", y.place(0, 1), 0);
  }

  private static void commitAborts() {
    AtomicRuntime x = load(withRival(op(ATOMIC), op(READ, 2, 0), op(WRITE, 0, 2), op(COMMIT), op(STOP)));
    x.run(0, 6);
    rivalCommits(x);
    x.run(0, 1);
    due("ABORTS", x.count(ABORTS), 1);
    due("no WRITE is done", x.place(0, 1), 55);
    due("CLOCK stays", x.count(CLOCK), 1);
    due("behind ATOMIC", x.thread(0, PC), 4);
    due("READS are empty", x.thread(0, READS), 0);
    due("WRITES are empty", x.thread(0, WRITES), 0);
    due("START", x.thread(0, START), 1);
    due("R(2) is back", x.register(0, 2), 0);
    x.run(0, 9);
    due("the second attempt", x.register(0, 2), 55);
    due("DONE", x.thread(0, STATE), IS_DONE);
    due("its VERSION", x.place(0, 2), 2);

    AtomicRuntime reader = load(withRival(op(ATOMIC), op(READ, 2, 0), op(COMMIT), op(STOP)));
    reader.run(0, 5);
    rivalCommits(reader);
    reader.run(0, 1);
    due("without WRITES too", reader.count(ABORTS), 1);
  }

  private static void commitWakes() {
    // Threads 1, 2 and 3 wait for R(0) or R(1) or both, 4 for R(2), 5 for nothing; 6 reads and is READY.
    AtomicRuntime x = load(
        op(VAR, 0, 15), op(VAR, 1, 15), op(VAR, 2, 15), op(FORK, 3, 20), op(FORK, 3, 23), op(FORK, 3, 26),
        op(FORK, 3, 30), op(FORK, 3, 34), op(FORK, 3, 23), op(ATOMIC), op(WRITE, 0, 3), op(WRITE, 1, 3),
        op(READ, 4, 2), op(COMMIT), op(ATOMIC), op(WRITE, 0, 3), op(COMMIT), op(STOP), op(STOP), op(STOP),
        op(ATOMIC), op(READ, 5, 0), op(RETRY),
        op(ATOMIC), op(READ, 5, 1), op(RETRY),
        op(ATOMIC), op(READ, 5, 2), op(READ, 5, 1), op(RETRY),
        op(ATOMIC), op(READ, 5, 2), op(TRY, 0), op(RETRY),
        op(ATOMIC), op(RETRY));
    x.run(0, 9);
    for (int i = 1; i <= 5; i++) {
      x.run(i, 9);
      due("thread " + i + " waits", x.thread(i, STATE), IS_PARKED);
    }
    x.run(6, 2);
    x.run(0, 5);
    int[] states = {IS_READY, IS_READY, IS_READY, IS_READY, IS_PARKED, IS_PARKED, IS_READY};
    int[] starts = {-1, 1, 1, 1, 0, 0, 0};
    int[] reads = {0, 0, 0, 0, 1, 0, 1};
    for (int i = 0; i < states.length; i++) {
      due("state of thread " + i, x.thread(i, STATE), states[i]);
      due("start of thread " + i, x.thread(i, START), starts[i]);
      due("reads of thread " + i, x.thread(i, READS), reads[i]);
    }
    due("nests of the one that waits in TRY", x.thread(4, NESTS), 2);
    due("no ABORTS", x.count(ABORTS), 0);
    x.run(1, 9);
    x.run(2, 9);
    x.run(0, 3);
    due("a second commit wakes again", x.thread(1, START), 2);
    due("not who reads another VAR", x.thread(2, STATE), IS_PARKED);
  }

  private static void wokenBeginsAgain() {
    AtomicRuntime x = load(
        op(VAR, 0, 15), op(CONST, 1, 4), op(FORK, 2, 7), op(ATOMIC), op(WRITE, 0, 1), op(COMMIT),
        op(STOP), op(CALL, 8), op(ATOMIC), op(TRY, 0), op(CONST, 5, 5), op(CALL, 12), op(READ, 3, 0),
        op(WRITE, 0, 3), op(ZERO, 3, 18), op(END, 16), op(COMMIT), op(STOP), op(RETRY));
    x.run(0, 3);
    x.run(1, 20);
    due("PARKED", x.thread(1, STATE), IS_PARKED);
    due("pc behind RETRY", x.thread(1, PC), 19);
    due("READS", x.thread(1, READS), 1);
    due("WRITES", x.thread(1, WRITES), 1);
    due("START", x.thread(1, START), 0);
    due("calls", x.thread(1, CALLS), 2);
    x.run(0, 9);
    due("READY", x.thread(1, STATE), IS_READY);
    due("pc behind ATOMIC", x.thread(1, PC), 9);
    due("NESTS", x.thread(1, NESTS), 1);
    due("READS are empty", x.thread(1, READS), 0);
    due("WRITES are empty", x.thread(1, WRITES), 0);
    due("START is the new CLOCK", x.thread(1, START), 1);
    due("calls are back", x.thread(1, CALLS), 1);
    due("registers are back", x.register(1, 5), 0);
    due("a woken thread is no ABORT", x.count(ABORTS), 0);
    x.run(1, 20);
    due("it reads the new VALUE", x.register(1, 3), 4);
    due("DONE", x.thread(1, STATE), IS_DONE);
  }

  private static void whatIsNotAllowed() {
    int[][] inside = rows(op(VAR, 0, 1), op(ATOMIC));
    int[][] inTry = rows(op(VAR, 0, 1), op(ATOMIC), op(TRY, 0));
    for (int number : new int[] {STOP, ATOMIC, FORK, PRINT, PUT}) {
      dueFailed("in ATOMIC: " + number, ran(join(inside, rows(op(number, 1, 1)))), 0, -4);
      AtomicRuntime x = ran(join(inTry, rows(op(number, 1, 1))));
      dueFailed("in TRY in ATOMIC: " + number, x, 0, -4);
      due("and nothing is done", x.count(PRINTED) + x.count(THREADS), 1);
    }
    for (int number : new int[] {READ, COMMIT, RETRY, OR}) {
      dueFailed("outside: " + number, ran(op(VAR, 0, 1), op(number, 1, 0)), 0, -4);
      dueFailed("in TRY: " + number, ran(op(VAR, 0, 1), op(TRY, 0), op(number, 1, 0)), 0, -4);
    }
    dueFailed("END without a NEST", ran(op(END, 0)), 0, -4);
    dueFailed("END of ATOMIC", ran(op(ATOMIC), op(END, 0)), 0, -4);
    dueFailed("END of ATOMIC in TRY", ran(op(TRY, 0), op(ATOMIC), op(END, 0)), 0, -4);
    dueFailed("COMMIT in OR", ran(op(ATOMIC), op(OR, 0), op(COMMIT)), 0, -4);
    dueFailed("COMMIT in TRY", ran(op(ATOMIC), op(TRY, 0), op(COMMIT)), 0, -4);
    dueFailed("COMMIT twice", ran(op(TRY, 0), op(ATOMIC), op(COMMIT), op(COMMIT)), 0, -4);
    dueFailed("an invalid COMMIT in OR is a fault too", invalidCommitInOr(), 0, -4);
  }

  private static AtomicRuntime invalidCommitInOr() {
    AtomicRuntime x = load(withRival(op(ATOMIC), op(READ, 2, 0), op(OR, 0), op(COMMIT)));
    x.run(0, 6);
    rivalCommits(x);
    x.run(0, 1);
    return x;
  }

  private static void nestsAreLimited() {
    AtomicRuntime x = load(op(TRY, 0), op(JUMP, 0));
    x.run(0, 48);
    due("24 NESTS", x.thread(0, NESTS), 24);
    x.run(0, 1);
    dueFailed("25 TRY", x, 0, -4);
    AtomicRuntime or = load(op(ATOMIC), op(OR, 0), op(JUMP, 1));
    or.run(0, 47);
    due("ATOMIC and 23 ORS", or.thread(0, NESTS), 24);
    or.run(0, 1);
    dueFailed("24 OR", or, 0, -4);
    AtomicRuntime atomic = ran(join(times(24, op(TRY, 0)), rows(op(ATOMIC))));
    dueFailed("ATOMIC in 24 TRY", atomic, 0, -4);
    AtomicRuntime last = load(join(times(23, op(TRY, 30)), rows(op(ATOMIC), op(CONST, 1, 2), op(THROW, 1)), times(9, op(STOP))));
    last.run(0, 25);
    due("the 24th is ATOMIC", last.thread(0, START), 0);
    last.run(0, 1);
    due("thrown out of two", last.thread(0, NESTS), 22);
    due("to alt", last.thread(0, PC), 30);
  }

  private static void logsAreLimited() {
    AtomicRuntime forty = ran(join(readsOf(40), rows(op(READ, 7, 0), op(COMMIT), op(STOP))));
    due("40 READS, one of them again", forty.thread(0, STATE), IS_DONE);
    AtomicRuntime more = ran(readsOf(41));
    dueFailed("41 READS", more, 0, -5);
    due("the fault is at the 41st", more.thread(0, PC), 205);
    AtomicRuntime own = ran(join(
        readsOf(40), rows(op(VAR, 0, 2), op(WRITE, 0, 2), op(READ, 7, 0), op(COMMIT), op(STOP))));
    due("a READ of WRITES has room", own.thread(0, STATE), IS_DONE);

    int[][] writes = join(rows(op(VAR, 0, 1), op(ATOMIC)), times(40, op(WRITE, 0, 1)));
    AtomicRuntime written = ran(join(writes, rows(op(COMMIT), op(STOP))));
    due("40 WRITES", written.thread(0, STATE), IS_DONE);
    dueFailed("41 WRITES", ran(join(writes, rows(op(WRITE, 0, 1)))), 0, -5);
    AtomicRuntime back = ran(join(
        rows(op(VAR, 0, 1), op(ATOMIC), op(OR, 43)), times(39, op(WRITE, 0, 1)), rows(op(RETRY)),
        times(40, op(WRITE, 0, 1)), rows(op(COMMIT), op(STOP))));
    due("room again behind RETRY", back.thread(0, STATE), IS_DONE);
  }

  /** 40 VARS are read, the rival commits to a 41st, which is read then: AGAIN, not -5. */
  private static void abortGoesBeforeTheLimit() {
    AtomicRuntime x = load(join(
        rows(op(VAR, 9, 2), op(FORK, 10, 300)), readsOf(40), rows(op(READ, 8, 9))));
    add(x, times(300 - x.count(INSTRUCTIONS), op(STOP)));
    add(x, op(ATOMIC), op(WRITE, 9, 2), op(COMMIT), op(STOP));
    x.run(0, 203);
    due("40 READS", x.thread(0, READS), 40);
    x.run(1, 9);
    x.run(0, 1);
    due("READY", x.thread(0, STATE), IS_READY);
    due("an abort", x.count(ABORTS), 1);
    due("READS are empty", x.thread(0, READS), 0);
    x.run(0, 121);
    dueFailed("the second attempt", x, 0, -5);
  }

  private static void orAndEnd() {
    AtomicRuntime x = load(
        op(VAR, 0, 1), op(ATOMIC), op(OR, 9), op(CONST, 1, 5), op(WRITE, 0, 1), op(END, 7), op(STOP),
        op(COMMIT), op(STOP));
    x.run(0, 6);
    due("END goes on at a", x.thread(0, PC), 7);
    due("the OR is gone", x.thread(0, NESTS), 1);
    due("WRITES stay", x.thread(0, WRITES), 1);
    due("registers stay", x.register(0, 1), 5);
    x.run(0, 1);
    due("committed", x.place(0, 1), 5);
    AtomicRuntime y = ran(op(TRY, 9), op(CONST, 1, 5), op(END, 4), op(STOP), op(CONST, 2, 6), op(STOP));
    due("END of TRY", y.register(0, 2), 6);
    due("registers stay", y.register(0, 1), 5);
    due("no NESTS", y.thread(0, NESTS), 0);
    due("DONE", y.thread(0, STATE), IS_DONE);
  }

  private static void retry() {
    AtomicRuntime x = load(
        op(VAR, 0, 2), op(VAR, 1, 2), op(ATOMIC), op(WRITE, 0, 1), op(OR, 30), op(CALL, 6), op(READ, 3, 1),
        op(OR, 13), op(CONST, 4, 4), op(CALL, 10), op(WRITE, 1, 4), op(TRY, 31), op(RETRY),
        op(WRITE, 1, 0), op(RETRY));
    x.run(0, 12);
    due("all open", x.thread(0, NESTS), 4);
    due("calls", x.thread(0, CALLS), 2);
    x.run(0, 1);
    due("the innermost OR goes, the TRY too", x.thread(0, NESTS), 2);
    due("its alt", x.thread(0, PC), 13);
    due("registers are back", x.register(0, 4), 0);
    due("calls are back", x.thread(0, CALLS), 1);
    due("WRITES are back", x.thread(0, WRITES), 1);
    due("READS stay", x.thread(0, READS), 1);
    due("what was read stays in the registers", x.register(0, 3), 0);
    due("READY", x.thread(0, STATE), IS_READY);
    x.run(0, 2);
    due("the next OR", x.thread(0, PC), 30);
    due("only ATOMIC", x.thread(0, NESTS), 1);
    due("no calls", x.thread(0, CALLS), 0);
    due("WRITES of before", x.thread(0, WRITES), 1);
    due("READS stay still", x.thread(0, READS), 1);
    due("no ABORTS", x.count(ABORTS), 0);

    AtomicRuntime outer = load(op(TRY, 9), op(ATOMIC), op(TRY, 9), op(RETRY));
    outer.run(0, 9);
    due("a TRY does not catch RETRY", outer.thread(0, STATE), IS_PARKED);
    due("its NESTS stay", outer.thread(0, NESTS), 3);
    due("stuck", outer.count(STUCK), 1);
  }

  private static void retryAborts() {
    AtomicRuntime x = load(withRival(op(ATOMIC), op(READ, 2, 0), op(TRY, 0), op(RETRY), op(STOP)));
    x.run(0, 6);
    rivalCommits(x);
    x.run(0, 1);
    due("AGAIN", x.thread(0, STATE), IS_READY);
    due("ABORTS", x.count(ABORTS), 1);
    due("behind ATOMIC", x.thread(0, PC), 4);
    due("ATOMIC alone", x.thread(0, NESTS), 1);
    x.run(0, 3);
    due("now it waits", x.thread(0, STATE), IS_PARKED);
    due("what it read", x.register(0, 2), 55);

    AtomicRuntime or = load(withRival(op(ATOMIC), op(READ, 2, 0), op(OR, 7), op(RETRY), op(RETRY), op(STOP)));
    or.run(0, 6);
    rivalCommits(or);
    or.run(0, 1);
    due("to the OR without a look at READS", or.thread(0, PC), 7);
    due("no ABORTS", or.count(ABORTS), 0);
    or.run(0, 1);
    due("then AGAIN", or.count(ABORTS), 1);
  }

  private static void tryAndThrow() {
    AtomicRuntime x = load(
        op(CONST, 1, 6), op(CALL, 2), op(TRY, 7), op(CONST, 1, 9), op(CALL, 5), op(TRY, 12), op(THROW, 1),
        op(STOP), op(STOP), op(STOP), op(STOP), op(STOP), op(THROW, 15), op(STOP));
    x.run(0, 7);
    due("the innermost TRY", x.thread(0, PC), 12);
    due("the code", x.register(0, 15), 9);
    due("calls of its beginning", x.thread(0, CALLS), 2);
    due("registers of its beginning", x.register(0, 1), 9);
    due("one NEST left", x.thread(0, NESTS), 1);
    x.run(0, 1);
    due("the outer TRY", x.thread(0, PC), 7);
    due("the code again", x.register(0, 15), 9);
    due("R(1) of its beginning", x.register(0, 1), 6);
    due("calls of its beginning", x.thread(0, CALLS), 1);
    x.run(0, 1);
    due("DONE", x.thread(0, STATE), IS_DONE);

    AtomicRuntime in = load(
        op(VAR, 0, 1), op(ATOMIC), op(CONST, 1, 3), op(WRITE, 0, 1), op(TRY, 8), op(WRITE, 0, 0),
        op(READ, 2, 0), op(THROW, 1), op(READ, 3, 0), op(COMMIT), op(STOP));
    in.run(0, 8);
    due("WRITES of its beginning", in.thread(0, WRITES), 1);
    due("in the transaction still", in.thread(0, START), 0);
    due("the code", in.register(0, 15), 3);
    due("R(2) is back", in.register(0, 2), 0);
    in.run(0, 3);
    due("of the WRITE that stayed", in.register(0, 3), 3);
    due("committed", in.place(0, 1), 3);

    AtomicRuntime read = load(op(VAR, 0, 1), op(ATOMIC), op(TRY, 5), op(READ, 2, 0), op(THROW, 1), op(COMMIT));
    read.run(0, 5);
    due("READS stay", read.thread(0, READS), 1);
    due("a code of 0", read.register(0, 15), 0);
    AtomicRuntime invalid = load(withRival(op(ATOMIC), op(TRY, 6), op(READ, 2, 0), op(THROW, 1), op(STOP)));
    invalid.run(0, 6);
    rivalCommits(invalid);
    invalid.run(0, 1);
    due("a TRY catches without a look at READS", invalid.register(0, 15), 3);
    due("no ABORTS", invalid.count(ABORTS), 0);
  }

  private static void throwLeavesOr() {
    AtomicRuntime x = load(
        op(VAR, 0, 1), op(CONST, 1, 8), op(ATOMIC), op(TRY, 20), op(OR, 21), op(OR, 22), op(CALL, 7),
        op(WRITE, 0, 1), op(CONST, 2, 2), op(THROW, 1));
    x.run(0, 10);
    due("to the TRY behind the ORS", x.thread(0, PC), 20);
    due("ATOMIC alone", x.thread(0, NESTS), 1);
    due("WRITES are back", x.thread(0, WRITES), 0);
    due("calls are back", x.thread(0, CALLS), 0);
    due("registers are back", x.register(0, 2), 0);
    due("the code", x.register(0, 15), 8);
  }

  private static void throwLeavesInvalidOr() {
    AtomicRuntime x = load(withRival(
        op(ATOMIC), op(TRY, 8), op(READ, 2, 0), op(OR, 0), op(THROW, 1), op(COMMIT), op(STOP)));
    x.run(0, 7);
    rivalCommits(x);
    x.run(0, 1);
    due("an OR goes without a look at READS", x.count(ABORTS), 0);
    due("to the TRY", x.thread(0, PC), 8);
    due("READS stay", x.thread(0, READS), 1);
    x.run(0, 1);
    due("COMMIT looks at them", x.count(ABORTS), 1);
  }

  private static void throwLeavesAtomic() {
    AtomicRuntime x = load(
        op(VAR, 0, 1), op(CONST, 1, 8), op(TRY, 11), op(CONST, 2, 1), op(ATOMIC), op(READ, 4, 0),
        op(WRITE, 0, 1), op(OR, 0), op(CALL, 9), op(CONST, 3, 3), op(THROW, 1), op(STOP));
    x.run(0, 11);
    due("to the TRY around it", x.thread(0, PC), 11);
    due("no NESTS", x.thread(0, NESTS), 0);
    due("no READS", x.thread(0, READS), 0);
    due("no WRITES", x.thread(0, WRITES), 0);
    due("no START", x.thread(0, START), -1);
    due("registers are back", x.register(0, 2), 0);
    due("the code", x.register(0, 15), 8);
    due("CLOCK stays", x.count(CLOCK), 0);
    due("the VAR stays", x.place(0, 1), 0);
    due("READY", x.thread(0, STATE), IS_READY);

    AtomicRuntime out = ran(
        op(VAR, 0, 1), op(CONST, 1, 8), op(ATOMIC), op(OR, 0), op(WRITE, 0, 1), op(CALL, 6),
        op(CONST, 3, 3), op(THROW, 1));
    dueFailed("out of all", out, 0, 8);
    due("registers stay", out.register(0, 3), 3);
    due("calls stay", out.thread(0, CALLS), 1);
    due("no WRITE is done", out.place(0, 1), 0);
    due("VERSION", out.place(0, 2), 0);
    due("no ABORTS", out.count(ABORTS), 0);
  }

  private static void throwAborts() {
    AtomicRuntime x = load(withRival(op(TRY, 0), op(ATOMIC), op(READ, 2, 0), op(OR, 0), op(THROW, 1), op(STOP)));
    x.run(0, 7);
    rivalCommits(x);
    x.run(0, 1);
    due("AGAIN", x.thread(0, PC), 5);
    due("ABORTS", x.count(ABORTS), 1);
    due("TRY and ATOMIC", x.thread(0, NESTS), 2);
    due("START", x.thread(0, START), 1);
    due("READY", x.thread(0, STATE), IS_READY);
    due("no code", x.register(0, 15), 0);
    x.run(0, 3);
    due("the second time it leaves", x.register(0, 15), 3);
    due("to the TRY", x.thread(0, PC), 0);

    AtomicRuntime plain = load(withRival(op(ATOMIC), op(READ, 2, 0), op(WRITE, 0, 2), op(THROW, 1), op(STOP)));
    plain.run(0, 6);
    rivalCommits(plain);
    plain.run(0, 1);
    due("without an OR and a TRY", plain.count(ABORTS), 1);
    due("READY still", plain.thread(0, STATE), IS_READY);
    due("WRITES are empty", plain.thread(0, WRITES), 0);
    plain.run(0, 9);
    dueFailed("thrown out of all then", plain, 0, 3);
    due("what it read", plain.register(0, 2), 55);
  }

  /** Calls that were made before a NEST come back to their own places after a roll back. */
  private static void callsComeBack() {
    AtomicRuntime x = ran(
        op(CALL, 3), op(CONST, 1, 1), op(STOP), op(TRY, 7), op(CALL, 5), op(CALL, 6), op(THROW, 0),
        op(CALL, 9), op(RET), op(RET));
    due("RET behind the roll back", x.register(0, 1), 1);
    due("DONE", x.thread(0, STATE), IS_DONE);
    due("no calls", x.thread(0, CALLS), 0);
    AtomicRuntime or = ran(
        op(ATOMIC), op(OR, 4), op(CALL, 3), op(RETRY), op(RET));
    dueFailed("the call of the OR is gone", or, 0, -2);
  }

  private static void faultsEndAll() {
    AtomicRuntime x = ran(
        op(VAR, 0, 1), op(TRY, 9), op(ATOMIC), op(CONST, 2, 2), op(READ, 3, 0), op(WRITE, 0, 2), op(RET));
    dueFailed("a fault is not caught", x, 0, -2);
    due("registers are not back", x.register(0, 2), 2);
    due("no WRITE is done", x.place(0, 1), 0);
    due("no code in R(15)", x.register(0, 15), 0);
  }
}
