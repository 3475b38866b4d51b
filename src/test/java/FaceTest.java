import java.util.NoSuchElementException;

/** Promises 1 to 11: what each call answers, at its edges, and what it throws. */
final class FaceTest extends Bench {
  public static void main(String[] args) {
    newObject();
    put();
    run();
    turn();
    turnLooksWhenTheTurnComes();
    thread();
    threadAfterTheEnd();
    register();
    global();
    place();
    output();
    collect();
    count();
    countOfTheStuck();
    finish("FaceTest");
  }

  private static void newObject() {
    AtomicRuntime x = new AtomicRuntime();
    int[] counts = {0, 1, 0, 0, 0, 0, 0, 0, 0};
    for (int what = 0; what < counts.length; what++) {
      due("new: count(" + what + ")", x.count(what), counts[what]);
    }
    int[] ofThread = {IS_READY, 0, 0, 0, 0, 0, 0, -1};
    for (int what = 0; what < ofThread.length; what++) {
      due("new: thread(0, " + what + ")", x.thread(0, what), ofThread[what]);
    }
    for (int k = 0; k < 16; k++) {
      due("new: register(0, " + k + ")", x.register(0, k), 0);
    }
    for (int k = 0; k < 8; k++) {
      due("new: global(" + k + ")", x.global(k), 0);
    }
    x.put(CONST, 1, 5, 0);
    x.run(0, 1);
    AtomicRuntime y = new AtomicRuntime();
    due("second object: count(0)", y.count(INSTRUCTIONS), 0);
    due("second object: register(0, 1)", y.register(0, 1), 0);
    due("second object: pc", y.thread(0, PC), 0);
    due("first object keeps its program", x.count(INSTRUCTIONS), 1);
    due("first object keeps its register", x.register(0, 1), 5);
  }

  private static void put() {
    AtomicRuntime x = new AtomicRuntime();
    for (int i = 0; i < 1000; i++) {
      due("put " + i, x.put(i == 3 ? -7 : i == 4 ? 99 : CONST, i == 5 ? 16 : 1, i, 0), i);
    }
    dueThrow("put 1000", IllegalStateException.class, () -> x.put(STOP, 0, 0, 0));
    due("put over the limit changes nothing", x.count(INSTRUCTIONS), 1000);
    due("put does not run", x.count(STEPS), 0);
    due("operands are kept", x.run(0, 2), 2);
    due("operands are kept", x.register(0, 1), 1);
    AtomicRuntime y = load(op(JUMP, 999));
    for (int i = 1; i < 999; i++) {
      y.put(STOP, 0, 0, 0);
    }
    y.put(CONST, 2, Integer.MIN_VALUE, 0);
    due("the last instruction is done", y.run(0, 2), 2);
    due("the last instruction is done", y.register(0, 2), Integer.MIN_VALUE);
    due("then there is none", y.run(0, 2), 1);
    dueFailed("then there is none", y, 0, -1);
  }

  private static void run() {
    AtomicRuntime x = load(op(JUMP, 0));
    dueThrow("run(-1, 1)", NoSuchElementException.class, () -> x.run(-1, 1));
    dueThrow("run(1, 1)", NoSuchElementException.class, () -> x.run(1, 1));
    dueThrow("run(1, 0)", NoSuchElementException.class, () -> x.run(1, 0));
    dueThrow("run(16, 501)", NoSuchElementException.class, () -> x.run(16, 501));
    dueThrow("run(0, 0)", IllegalArgumentException.class, () -> x.run(0, 0));
    dueThrow("run(0, -1)", IllegalArgumentException.class, () -> x.run(0, -1));
    dueThrow("run(0, 501)", IllegalArgumentException.class, () -> x.run(0, 501));
    due("steps after throws", x.count(STEPS), 0);
    due("run(0, 1)", x.run(0, 1), 1);
    due("run(0, 500)", x.run(0, 500), 500);
    due("steps", x.count(STEPS), 501);

    AtomicRuntime y = load(op(CONST, 1, 7), op(STOP));
    due("run until DONE", y.run(0, 500), 2);
    due("run of a DONE thread", y.run(0, 500), 0);
    due("its steps", y.count(STEPS), 2);
    dueThrow("run of a DONE thread", IllegalArgumentException.class, () -> y.run(0, 0));

    AtomicRuntime z = load(op(VAR, 0, 1), op(ATOMIC), op(READ, 1, 0), op(RETRY));
    due("run until PARKED", z.run(0, 500), 4);
    due("run of a PARKED thread", z.run(0, 1), 0);

    AtomicRuntime w = new AtomicRuntime();
    due("run without a program", w.run(0, 5), 1);
    dueFailed("run without a program", w, 0, -1);
    due("pc behind what is not there", w.thread(0, PC), 1);
    due("run of a FAILED thread", w.run(0, 5), 0);

    AtomicRuntime v = load(op(FORK, 1, 2), op(JUMP, 1), op(CONST, 3, 4), op(STOP));
    v.run(0, 1);
    due("run of another thread", v.run(1, 9), 2);
    due("run leaves the others", v.thread(0, PC), 1);
  }

  private static void turn() {
    AtomicRuntime x = load(op(JUMP, 0));
    dueThrow("turn(0)", IllegalArgumentException.class, () -> x.turn(0));
    dueThrow("turn(-3)", IllegalArgumentException.class, () -> x.turn(-3));
    dueThrow("turn(101)", IllegalArgumentException.class, () -> x.turn(101));
    due("steps after throws", x.count(STEPS), 0);
    due("turn(1)", x.turn(1), 1);
    due("turn(100)", x.turn(100), 100);

    AtomicRuntime y = load(op(STOP));
    due("turn until DONE", y.turn(100), 1);
    due("turn with none READY", y.turn(100), 0);

    AtomicRuntime z = load(op(FORK, 0, 0), op(JUMP, 1));
    due("a forked thread has its turn in the same round", z.turn(1), 16);
    due("all there are", z.count(THREADS), 16);
    for (int i = 0; i < 15; i++) {
      due("number in the parent " + i, z.register(i, 0), i + 1);
    }
    due("no number for the last", z.register(15, 0), -1);
    due("16 threads, 100 rounds", z.turn(100), 1600);
  }

  /** Thread 0 prints 0, thread 1 prints 1 ..: so the output shows the order of the steps. */
  private static void turnLooksWhenTheTurnComes() {
    AtomicRuntime order = load(op(FORK, 1, 3), op(PRINT, 0), op(JUMP, 1), op(PRINT, 1), op(JUMP, 3));
    due("three rounds", order.turn(3), 6);
    int[] printed = {1, 0};
    for (int k = 0; k < printed.length; k++) {
      due("output(" + k + ")", order.output(k), printed[k]);
    }

    // Thread 1 parks on the VAR; thread 0 commits and wakes it, so it steps in the same round.
    AtomicRuntime later = load(
        op(VAR, 1, 0), op(FORK, 2, 6), op(ATOMIC), op(WRITE, 1, 2), op(COMMIT), op(STOP),
        op(ATOMIC), op(READ, 3, 1), op(RETRY));
    later.run(0, 4);
    due("thread 1 parks", later.run(1, 9), 3);
    due("woken before its turn", later.turn(1), 2);
    due("woken thread has read", later.thread(1, READS), 1);

    // The other way: thread 0 parks, thread 1 wakes it, when its turn is over.
    AtomicRuntime sooner = load(
        op(VAR, 1, 0), op(FORK, 2, 5), op(ATOMIC), op(READ, 3, 1), op(RETRY),
        op(ATOMIC), op(WRITE, 1, 2), op(COMMIT), op(STOP));
    due("thread 0 parks", sooner.run(0, 9), 5);
    due("thread 1 writes", sooner.run(1, 2), 2);
    due("woken behind its turn", sooner.turn(1), 1);
    due("READY again", sooner.thread(0, STATE), IS_READY);
    due("behind ATOMIC", sooner.thread(0, PC), 3);
    due("both in the next round", sooner.turn(1), 2);
  }

  private static void thread() {
    AtomicRuntime x = load(
        op(VAR, 0, 1), op(CALL, 3), op(STOP), op(TRY, 9), op(ATOMIC), op(CALL, 6), op(READ, 1, 0),
        op(WRITE, 0, 1), op(WRITE, 0, 1), op(OR, 0), op(COMMIT));
    dueThrow("thread(-1, 0)", NoSuchElementException.class, () -> x.thread(-1, 0));
    dueThrow("thread(1, 9)", NoSuchElementException.class, () -> x.thread(1, 9));
    dueThrow("thread(0, 8)", IllegalArgumentException.class, () -> x.thread(0, 8));
    dueThrow("thread(0, -1)", IllegalArgumentException.class, () -> x.thread(0, -1));
    x.run(0, 9);
    int[] in = {IS_READY, 0, 10, 2, 3, 1, 2, 0};
    for (int what = 0; what < in.length; what++) {
      due("in a transaction: thread(0, " + what + ")", x.thread(0, what), in[what]);
    }
    x.run(0, 1);
    dueFailed("COMMIT within OR", x, 0, -4);
    due("calls stay with a fault", x.thread(0, CALLS), 2);
    due("pc behind the fault", x.thread(0, PC), 11);

    AtomicRuntime parked = load(op(VAR, 0, 1), op(ATOMIC), op(READ, 1, 0), op(RETRY));
    parked.run(0, 9);
    int[] waits = {IS_PARKED, 0, 4, 0, 1, 1, 0, 0};
    for (int what = 0; what < waits.length; what++) {
      due("parked: thread(0, " + what + ")", parked.thread(0, what), waits[what]);
    }

    AtomicRuntime later = load(
        op(VAR, 0, 1), op(ATOMIC), op(WRITE, 0, 1), op(COMMIT), op(TRY, 0), op(ATOMIC), op(JUMP, 6));
    later.run(0, 5);
    due("no START in a TRY alone", later.thread(0, START), -1);
    later.run(0, 1);
    due("START is the CLOCK", later.thread(0, START), 1);
  }

  private static void threadAfterTheEnd() {
    AtomicRuntime done = ran(op(CALL, 1), op(STOP));
    int[] rests = {IS_DONE, 0, 2, 1, 0, 0, 0, -1};
    for (int what = 0; what < rests.length; what++) {
      due("done: thread(0, " + what + ")", done.thread(0, what), rests[what]);
    }
    AtomicRuntime thrown = ran(op(CONST, 1, 77), op(CALL, 2), op(THROW, 1));
    dueFailed("thrown", thrown, 0, 77);
    due("thrown: pc", thrown.thread(0, PC), 3);
    due("thrown: calls", thrown.thread(0, CALLS), 1);
    AtomicRuntime zero = ran(op(THROW, 1));
    dueFailed("thrown 0", zero, 0, 0);
  }

  private static void register() {
    AtomicRuntime x = ran(
        op(CONST, 15, -5), op(VAR, 1, 0), op(PAIR, 2, 0, 0), op(VAR, 0, 2),
        op(CONST, 14, Integer.MAX_VALUE), op(STOP));
    due("INT below 0", x.register(0, 15), -5);
    due("INT", x.register(0, 14), 2147483647L);
    due("VAR at 0", x.register(0, 1), 17179869184L);
    due("PAIR at 1", x.register(0, 2), 8589934593L);
    due("VAR at 2", x.register(0, 0), 17179869186L);
    dueThrow("register(0, 16)", NoSuchElementException.class, () -> x.register(0, 16));
    dueThrow("register(0, -1)", NoSuchElementException.class, () -> x.register(0, -1));
    dueThrow("register(1, 0)", NoSuchElementException.class, () -> x.register(1, 0));
    dueThrow("register(-1, 0)", NoSuchElementException.class, () -> x.register(-1, 0));
  }

  private static void global() {
    AtomicRuntime x = ran(
        op(CONST, 1, -9), op(PUT, 0, 1), op(PAIR, 2, 1, 1), op(PUT, 7, 2), op(VAR, 3, 1),
        op(PUT, 3, 3), op(STOP));
    due("INT", x.global(0), -9);
    due("PAIR", x.global(7), pairAt(0));
    due("VAR", x.global(3), varAt(1));
    due("another", x.global(1), 0);
    dueThrow("global(8)", NoSuchElementException.class, () -> x.global(8));
    dueThrow("global(-1)", NoSuchElementException.class, () -> x.global(-1));
  }

  private static void place() {
    AtomicRuntime x = ran(
        op(CONST, 1, -3), op(CONST, 2, 4), op(VAR, 3, 1), op(PAIR, 4, 3, 2), op(PAIR, 5, 2, 4),
        op(ATOMIC), op(WRITE, 3, 4), op(COMMIT), op(ATOMIC), op(WRITE, 3, 5), op(COMMIT), op(STOP));
    long[][] dues = {{2, pairAt(2), 2}, {1, varAt(0), 4}, {1, 4, pairAt(1)}};
    for (int p = 0; p < dues.length; p++) {
      for (int what = 0; what < 3; what++) {
        due("place(" + p + ", " + what + ")", x.place(p, what), dues[p][what]);
      }
    }
    dueThrow("place(3, 0)", NoSuchElementException.class, () -> x.place(3, 0));
    dueThrow("place(3, 7)", NoSuchElementException.class, () -> x.place(3, 7));
    dueThrow("place(-1, 0)", NoSuchElementException.class, () -> x.place(-1, 0));
    dueThrow("place(200, 0)", NoSuchElementException.class, () -> x.place(200, 0));
    dueThrow("place(0, 3)", IllegalArgumentException.class, () -> x.place(0, 3));
    dueThrow("place(0, -1)", IllegalArgumentException.class, () -> x.place(0, -1));
  }

  private static void output() {
    AtomicRuntime x = load(op(CONST, 1, 1), op(PRINT, 0), op(ADD, 0, 0, 1), op(JUMP, 1));
    dueThrow("output(0) of none", IndexOutOfBoundsException.class, () -> x.output(0));
    x.run(0, 4);
    due("output(0)", x.output(0), 0);
    dueThrow("output(1)", IndexOutOfBoundsException.class, () -> x.output(1));
    dueThrow("output(-1)", IndexOutOfBoundsException.class, () -> x.output(-1));
    x.run(0, 500);
    x.run(0, 97);
    due("200 are kept", x.count(PRINTED), 200);
    due("the oldest of 200", x.output(0), 0);
    due("the newest of 200", x.output(199), 199);
    x.run(0, 3);
    due("201 printed", x.count(PRINTED), 200);
    due("the oldest kept of 201", x.output(0), 1);
    due("the newest of 201", x.output(199), 200);
    dueThrow("output(200)", IndexOutOfBoundsException.class, () -> x.output(200));
    for (int i = 0; i < 3; i++) {
      x.run(0, 300);
    }
    due("the oldest kept of 501", x.output(0), 301);
    due("one in the middle of 501", x.output(150), 451);
    due("the newest of 501", x.output(199), 500);
  }

  private static void collect() {
    AtomicRuntime x = load(op(PAIR, 1, 0, 0), op(PAIR, 1, 0, 0), op(VAR, 2, 1), op(STOP));
    due("collect() of none", x.collect(), 0);
    x.run(0, 3);
    due("in use before", x.count(PLACES), 3);
    due("collect()", x.collect(), 2);
    due("in use then", x.count(PLACES), 2);
    due("it counts as one", x.count(COLLECTIONS), 2);
    due("it is no step", x.count(STEPS), 3);
    due("register follows", x.register(0, 1), pairAt(0));
    due("register follows", x.register(0, 2), varAt(1));
    due("value of the place follows", x.place(1, 1), pairAt(0));
  }

  private static void count() {
    AtomicRuntime x = ran(
        op(VAR, 1, 0), op(FORK, 2, 8), op(ATOMIC), op(WRITE, 1, 2), op(COMMIT), op(PRINT, 2),
        op(PRINT, 2), op(STOP), op(ATOMIC), op(READ, 1, 1), op(COMMIT), op(JUMP, 11));
    int[] counts = {12, 2, 1, 1, 0, 0, 8, 2, 0};
    for (int what = 0; what < counts.length; what++) {
      due("count(" + what + ")", x.count(what), counts[what]);
    }
    due("count(9)", x.count(9), -1);
    due("count(-1)", x.count(-1), -1);
    due("count(MAX)", x.count(Integer.MAX_VALUE), -1);
    due("count(MIN)", x.count(Integer.MIN_VALUE), -1);
    x.run(1, 2);
    due("steps of all threads", x.count(STEPS), 10);
    x.run(1, 1);
    due("a fault or not, a step counts", x.count(STEPS), 11);
    due("a commit without writes leaves the CLOCK", x.count(CLOCK), 1);
  }

  private static void countOfTheStuck() {
    AtomicRuntime x = load(op(FORK, 1, 3), op(FORK, 1, 6), op(STOP), op(ATOMIC), op(RETRY), op(STOP), op(STOP));
    due("all READY", x.count(STUCK), 0);
    x.run(0, 3);
    x.run(1, 2);
    due("thread 1 is PARKED", x.thread(1, STATE), IS_PARKED);
    due("thread 2 is READY", x.count(STUCK), 0);
    x.run(2, 1);
    due("none READY, one PARKED", x.count(STUCK), 1);
    AtomicRuntime y = ran(op(STOP));
    due("none READY, none PARKED", y.count(STUCK), 0);
    AtomicRuntime z = ran(op(ATOMIC), op(RETRY));
    due("one alone, PARKED", z.count(STUCK), 1);
  }
}
