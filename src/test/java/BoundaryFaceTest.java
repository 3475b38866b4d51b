import java.io.IOException;
import java.util.NoSuchElementException;

/** Promises 1 to 11: for each sentence that names a boundary case a test of its own. */
final class BoundaryFaceTest extends Bench {
  private static final int MIN = Integer.MIN_VALUE;
  private static final int MAX = Integer.MAX_VALUE;

  public static void main(String[] args) throws IOException {
    newHasNoProgram();
    newThreadIsReady();
    refusedCallsChangeNothing();
    refusedCallsLeaveNoTrace();
    lastCallAnswers();
    putAnswersTheNumber();
    putRefuses();
    runLimits();
    runStopsWithTheThread();
    firstExceptionFirst();
    runRefusesThread();
    runRefusesN();
    turnOfReadyThreads();
    turnByNumbers();
    turnLimits();
    turnOfNewThreads();
    turnCountsSteps();
    turnLooksWhenTheTurnComes();
    turnRefusesN();
    threadState();
    threadCode();
    threadCounts();
    threadStart();
    threadRefusesThread();
    threadRefusesWhat();
    registerShowsValues();
    registerRefuses();
    globalShowsValues();
    globalRefuses();
    placeSort();
    placeFirst();
    placeSecond();
    placeRefusesPlace();
    placeRefusesWhat();
    outputKeepsTheLast();
    outputRefuses();
    collectAnswers();
    countsAtTheirEdges();
    countOfOutput();
    countOfSteps();
    countOfTheStuck();
    countOfNothing();
    dueInDocument(args[1]);
    finish("BoundaryFaceTest");
  }

  /** THREAD 0 is in a transaction, THREAD 1 is PARKED; there is something of all that can be asked for. */
  private static AtomicRuntime busy() {
    AtomicRuntime x = load(
        op(CONST, 1, 3), op(VAR, 0, 1), op(PAIR, 2, 0, 1), op(PUT, 7, 2), op(PRINT, 1), op(FORK, 14, 8),
        op(CALL, 7), op(TRY, 0), op(ATOMIC), op(READ, 3, 0), op(WRITE, 0, 1), op(OR, 13), op(RETRY),
        op(RETRY));
    x.run(0, 12);
    x.run(1, 6);
    return x;
  }

  private static AtomicRuntime parked() {
    return ran(op(ATOMIC), op(RETRY));
  }

  // Promises 1 and 2, and how long an object is used.

  private static void newHasNoProgram() {
    promises(1, "No PROGRAM");
    AtomicRuntime x = new AtomicRuntime();
    dueCounts("new", x, 0, 1, 0, 0, 0, 0, 0, 0, 0);
    due("there is no INSTRUCTION to do", x.run(0, 500), 1);
    dueThread("run", x, 0, IS_FAILED, -1, 1, 0, 0, 0, 0, -1);
  }

  private static void newThreadIsReady() {
    promises(1, "THREAD 0 is READY at 0.");
    AtomicRuntime x = new AtomicRuntime();
    dueThread("new", x, 0, IS_READY, 0, 0, 0, 0, 0, 0, -1);
    dueRefused(x, NoSuchElementException.class, () -> x.thread(1, STATE));
  }

  private static void refusedCallsChangeNothing() {
    promises(1, "(A call that throws changes nothing.)");
    AtomicRuntime x = busy();
    dueRefused(x, NoSuchElementException.class,
        () -> x.run(2, 1), () -> x.thread(2, STATE), () -> x.register(2, 0), () -> x.register(0, 16),
        () -> x.global(8), () -> x.place(2, 0));
    dueRefused(x, IllegalArgumentException.class,
        () -> x.run(0, 0), () -> x.run(0, 501), () -> x.turn(0), () -> x.turn(101),
        () -> x.thread(0, 8), () -> x.place(0, 3));
    dueRefused(x, IndexOutOfBoundsException.class, () -> x.output(1));
  }

  private static void refusedCallsLeaveNoTrace() {
    terms("A call that throws changes nothing but what is said there.");
    AtomicRuntime x = busy();
    AtomicRuntime twin = busy();
    dueThrow("run", NoSuchElementException.class, () -> x.run(2, 1));
    dueThrow("run", IllegalArgumentException.class, () -> x.run(0, 501));
    dueThrow("turn", IllegalArgumentException.class, () -> x.turn(101));
    dueThrow("thread", IllegalArgumentException.class, () -> x.thread(0, 8));
    dueThrow("register", NoSuchElementException.class, () -> x.register(0, 16));
    dueThrow("global", NoSuchElementException.class, () -> x.global(8));
    dueThrow("place", NoSuchElementException.class, () -> x.place(2, 0));
    dueThrow("output", IndexOutOfBoundsException.class, () -> x.output(1));
    add(x, op(COMMIT), op(PRINT, 1), op(RET));
    add(twin, op(COMMIT), op(PRINT, 1), op(RET));
    for (int i = 0; i < 3; i++) {
      due("STEPS", x.turn(i + 1), twin.turn(i + 1));
    }
    due("goes on as one without them", everything(x).equals(everything(twin)) ? 1 : 0, 1);
  }

  private static void lastCallAnswers() {
    says("What it is", "at most 512 calls after it has been made");
    AtomicRuntime x = load(op(CONST, 1, 1), op(ADD, 2, 2, 1), op(JUMP, 1));
    for (int call = 4; call < 511; call++) {
      due("call " + call, x.turn(1), 1);
    }
    due("call 511", x.run(0, 500), 500);
    due("call 512", x.register(0, 2), 503);
  }

  private static void putAnswersTheNumber() {
    promises(2, "An INSTRUCTION comes to the PROGRAM: its number.");
    AtomicRuntime x = new AtomicRuntime();
    due("the first", x.put(STOP, 0, 0, 0), 0);
    due("one that is no op", x.put(MIN, MAX, -1, 16), 1);
    due("one that is no op", x.put(30, MIN, 16, 8), 2);
    due("the first again", x.put(STOP, 0, 0, 0), 3);
    dueCounts("four", x, 4, 1, 0, 0, 0, 0, 0, 0, 0);
    x.run(0, 1);
    due("with no THREAD that is READY", x.put(STOP, 0, 0, 0), 4);
  }

  private static void putRefuses() {
    promises(2, "IllegalStateException: there are 1,000.");
    AtomicRuntime x = load(op(JUMP, 999));
    for (int i = 1; i < 1000; i++) {
      due("put " + i, x.put(STOP, i, 0, 0), i);
    }
    dueRefused(x, IllegalStateException.class,
        () -> x.put(STOP, 0, 0, 0), () -> x.put(-1, -1, -1, -1));
    due("1,000 INSTRUCTIONS", x.count(INSTRUCTIONS), 1000);
    due("the last of them is done", x.run(0, 500), 2);
    due("DONE", x.thread(0, STATE), IS_DONE);
  }

  // Promise 3.

  private static void runLimits() {
    promises(3, "At most n STEPS, 1 .. 500");
    AtomicRuntime x = load(op(JUMP, 0));
    due("run(0, 1)", x.run(0, 1), 1);
    due("run(0, 499)", x.run(0, 499), 499);
    due("run(0, 500)", x.run(0, 500), 500);
    due("STEPS", x.count(STEPS), 1000);
  }

  private static void runStopsWithTheThread() {
    promises(3, "of a THREAD, as long as it is READY: how many.");
    AtomicRuntime stops = load(op(CONST, 1, 7), op(STOP));
    due("the last STEP ends it", stops.run(0, 2), 2);
    due("DONE", stops.run(0, 500), 0);
    AtomicRuntime fails = load(op(CONST, 1, 7), op(RET), op(STOP));
    due("a FAULT is a STEP", fails.run(0, 500), 2);
    due("FAILED", fails.run(0, 500), 0);
    AtomicRuntime parks = load(op(ATOMIC), op(RETRY), op(STOP));
    due("RETRY is a STEP", parks.run(0, 500), 2);
    due("PARKED", parks.run(0, 500), 0);
    due("STEPS of all three", stops.count(STEPS) + fails.count(STEPS) + parks.count(STEPS), 6);
    AtomicRuntime two = load(op(FORK, 1, 1), op(JUMP, 1));
    two.run(0, 1);
    due("of the other", two.run(1, 3), 3);
    due("of the other alone", two.thread(0, PC), 1);
  }

  private static void firstExceptionFirst() {
    promises(3, "(Of two exceptions the one named first, here and below.)");
    AtomicRuntime x = busy();
    dueRefused(x, NoSuchElementException.class,
        () -> x.run(2, 0), () -> x.run(-1, 501), () -> x.thread(2, 8), () -> x.thread(-1, -1),
        () -> x.place(2, 3), () -> x.place(-1, -1));
  }

  private static void runRefusesThread() {
    promises(3, "NoSuchElementException: no such THREAD.");
    AtomicRuntime x = busy();
    dueRefused(x, NoSuchElementException.class,
        () -> x.run(-1, 1), () -> x.run(2, 1), () -> x.run(16, 500), () -> x.run(MIN, 1),
        () -> x.run(MAX, 1));
    due("THREAD 1 is there", x.run(1, 1), 0);
  }

  private static void runRefusesN() {
    promises(3, "IllegalArgumentException: another n.");
    AtomicRuntime x = busy();
    dueRefused(x, IllegalArgumentException.class,
        () -> x.run(0, 0), () -> x.run(0, -1), () -> x.run(0, 501), () -> x.run(0, MIN),
        () -> x.run(0, MAX), () -> x.run(1, 0));
  }

  // Promise 4.

  private static void turnOfReadyThreads() {
    promises(4, "One STEP of each THREAD that is READY");
    AtomicRuntime x = load(
        op(FORK, 1, 6), op(FORK, 1, 7), op(FORK, 1, 8), op(FORK, 1, 10), op(JUMP, 5), op(JUMP, 5),
        op(STOP), op(RET), op(ATOMIC), op(RETRY), op(JUMP, 10));
    x.run(0, 5);
    x.run(1, 1);
    x.run(2, 1);
    x.run(3, 2);
    due("two are READY", x.turn(1), 2);
    int[] pcs = {5, 7, 8, 10, 10};
    for (int i = 0; i < pcs.length; i++) {
      due("PC of THREAD " + i, x.thread(i, PC), pcs[i]);
    }
    due("none is READY", ran(op(STOP)).turn(100), 0);
  }

  private static void turnByNumbers() {
    promises(4, "by numbers");
    AtomicRuntime x = load(
        op(FORK, 1, 4), op(FORK, 1, 7), op(PRINT, 15), op(STOP),
        op(CONST, 2, 1), op(PRINT, 2), op(STOP), op(CONST, 2, 2), op(PRINT, 2), op(STOP));
    x.run(0, 2);
    x.run(1, 1);
    x.run(2, 1);
    due("each prints its number", x.turn(1), 3);
    for (int k = 0; k < 3; k++) {
      due("output(" + k + ")", x.output(k), k);
    }
  }

  private static void turnLimits() {
    promises(4, "n times, 1 .. 100");
    AtomicRuntime x = load(op(JUMP, 0));
    due("turn(1)", x.turn(1), 1);
    due("turn(99)", x.turn(99), 99);
    due("turn(100)", x.turn(100), 100);
    due("STEPS", x.count(STEPS), 200);
  }

  private static void turnOfNewThreads() {
    promises(4, "those that are made come last, in the same round");
    AtomicRuntime x = load(op(FORK, 1, 3), op(PRINT, 15), op(STOP), op(CONST, 2, 1), op(PRINT, 2), op(STOP));
    due("two in the first round", x.turn(1), 2);
    due("PC of the new one", x.thread(1, PC), 4);
    x.turn(1);
    due("THREAD 0 is first", x.output(0), 0);
    due("the new one is last", x.output(1), 1);
    AtomicRuntime chain = load(op(FORK, 0, 0), op(JUMP, 1));
    due("each makes the next: 16 in one round", chain.turn(1), 16);
    AtomicRuntime behind = load(op(FORK, 1, 2), op(FORK, 2, 3), op(JUMP, 2), op(JUMP, 3));
    due("THREAD 1 is there", behind.run(0, 1), 1);
    due("THREAD 2 comes behind THREAD 1", behind.turn(1), 3);
  }

  private static void turnCountsSteps() {
    promises(4, "how many STEPS");
    AtomicRuntime ends = load(op(FORK, 1, 2), op(STOP), op(JUMP, 2));
    due("2 in two rounds, then 1 each", ends.turn(100), 2 + 2 + 98);
    AtomicRuntime all = load(op(FORK, 0, 0), op(JUMP, 1));
    all.turn(1);
    due("16 THREADS, 100 rounds", all.turn(100), 1600);
    due("a FAULT is a STEP", new AtomicRuntime().turn(100), 1);
    AtomicRuntime aborts = load(withRival(op(ATOMIC), op(READ, 2, 0), op(COMMIT), op(STOP)));
    aborts.run(0, 5);
    rivalCommits(aborts);
    due("an abort is a STEP", aborts.turn(2), 2);
    due("an abort", aborts.count(ABORTS), 1);
  }

  private static void turnLooksWhenTheTurnComes() {
    promises(4, "whether a THREAD is READY is looked at when its turn comes");
    // THREAD 1 waits for THREAD 0, which stands at its COMMIT.
    AtomicRuntime later = load(
        op(VAR, 1, 0), op(FORK, 2, 6), op(ATOMIC), op(WRITE, 1, 2), op(COMMIT), op(STOP),
        op(ATOMIC), op(READ, 3, 1), op(RETRY));
    later.run(0, 4);
    later.run(1, 3);
    due("woken before its turn", later.turn(1), 2);
    // THREAD 0 waits for THREAD 1, which stands at its COMMIT.
    AtomicRuntime sooner = load(
        op(VAR, 1, 0), op(FORK, 2, 5), op(ATOMIC), op(READ, 3, 1), op(RETRY),
        op(ATOMIC), op(WRITE, 1, 2), op(COMMIT), op(STOP));
    sooner.run(0, 5);
    sooner.run(1, 2);
    due("woken behind its turn", sooner.turn(1), 1);
    due("and READY for the next", sooner.turn(1), 2);
  }

  private static void turnRefusesN() {
    promises(4, "IllegalArgumentException: another n.");
    AtomicRuntime x = busy();
    dueRefused(x, IllegalArgumentException.class,
        () -> x.turn(0), () -> x.turn(-1), () -> x.turn(101), () -> x.turn(MIN), () -> x.turn(MAX));
  }

  // Promise 5.

  private static void threadState() {
    promises(5, "what 0: 1 READY, 2 PARKED, 3 DONE, 4 FAILED");
    due("READY", new AtomicRuntime().thread(0, 0), 1);
    due("PARKED", parked().thread(0, 0), 2);
    due("DONE", ran(op(STOP)).thread(0, 0), 3);
    due("FAILED", ran(op(RET)).thread(0, 0), 4);
    due("thrown", ran(op(THROW, 1)).thread(0, 0), 4);
  }

  private static void threadCode() {
    promises(5, "1 the code (0)");
    due("READY", new AtomicRuntime().thread(0, 1), 0);
    due("PARKED", parked().thread(0, 1), 0);
    due("DONE", ran(op(STOP)).thread(0, 1), 0);
    due("a FAULT", ran(op(RET)).thread(0, 1), -2);
    due("thrown 0", ran(op(THROW, 1)).thread(0, 1), 0);
    due("thrown", ran(op(CONST, 1, MAX), op(THROW, 1)).thread(0, 1), MAX);
    due("caught", ran(op(CONST, 1, 9), op(TRY, 3), op(THROW, 1), op(STOP)).thread(0, 1), 0);
  }

  private static void threadCounts() {
    promises(5, "2 PC; 3 calls; 4 NESTS; 5 READS; 6 WRITES");
    AtomicRuntime x = busy();
    dueThread("in a transaction", x, 0, IS_READY, 0, 12, 1, 3, 1, 1, 0);
    dueThread("PARKED", x, 1, IS_PARKED, 0, 14, 0, 1, 1, 1, 0);
    AtomicRuntime failed = ran(
        op(VAR, 0, 1), op(CALL, 2), op(TRY, 0), op(ATOMIC), op(READ, 2, 0), op(WRITE, 0, 1), op(RET));
    dueThread("FAILED", failed, 0, IS_FAILED, -2, 7, 1, 0, 0, 0, -1);
    dueThread("DONE within a call", ran(op(CALL, 1), op(STOP)), 0, IS_DONE, 0, 2, 1, 0, 0, 0, -1);
  }

  private static void threadStart() {
    promises(5, "7 START in a TRANSACTION, else -1");
    AtomicRuntime x = load(
        op(TRY, 9), op(ATOMIC), op(OR, 9), op(END, 4), op(COMMIT), op(VAR, 0, 1), op(ATOMIC), op(WRITE, 0, 1),
        op(COMMIT), op(ATOMIC), op(RETRY));
    long[] starts = {-1, -1, 0, 0, 0, -1, -1, 0, 0, -1, 1, 1};
    for (int i = 0; i < starts.length; i++) {
      due("behind " + i + " STEPS", x.thread(0, 7), starts[i]);
      x.run(0, 1);
    }
    due("FAILED in one", ran(op(ATOMIC), op(RET)).thread(0, 7), -1);
    due("thrown out of one", ran(op(TRY, 3), op(ATOMIC), op(THROW, 1), op(STOP)).thread(0, 7), -1);
  }

  private static void threadRefusesThread() {
    promises(5, "NoSuchElementException: no such THREAD.");
    AtomicRuntime x = busy();
    dueRefused(x, NoSuchElementException.class,
        () -> x.thread(-1, 0), () -> x.thread(2, 7), () -> x.thread(16, 0), () -> x.thread(MIN, 0),
        () -> x.thread(MAX, 0));
  }

  private static void threadRefusesWhat() {
    promises(5, "IllegalArgumentException: another what.");
    AtomicRuntime x = busy();
    dueRefused(x, IllegalArgumentException.class,
        () -> x.thread(0, -1), () -> x.thread(0, 8), () -> x.thread(1, 8), () -> x.thread(0, MIN),
        () -> x.thread(0, MAX));
  }

  // Promises 6 and 7.

  private static void registerShowsValues() {
    promises(6, "an INT as it is, a PAIR at p 2^33 + p, a VAR 2^34 + p.");
    AtomicRuntime x = load(join(
        rows(op(CONST, 1, MAX), op(CONST, 2, MIN), op(CONST, 3, -1), op(PAIR, 4, 1, 1), op(VAR, 5, 1)),
        times(196, op(PAIR, 6, 0, 0)), rows(op(PAIR, 7, 0, 0), op(VAR, 8, 0))));
    x.run(0, 203);
    long[] dues = {
      0, 2147483647L, -2147483648L, -1, 8589934592L, 17179869185L, 8589934789L, 8589934790L, 17179869383L
    };
    for (int k = 0; k < dues.length; k++) {
      due("register(0, " + k + ")", x.register(0, k), dues[k]);
    }
  }

  private static void registerRefuses() {
    promises(6, "NoSuchElementException: no such THREAD or REGISTER.");
    AtomicRuntime x = busy();
    dueRefused(x, NoSuchElementException.class,
        () -> x.register(-1, 0), () -> x.register(2, 0), () -> x.register(16, 0), () -> x.register(MIN, 0),
        () -> x.register(MAX, 0), () -> x.register(0, -1), () -> x.register(0, 16),
        () -> x.register(0, MIN), () -> x.register(0, MAX), () -> x.register(1, 16),
        () -> x.register(2, 16));
    due("the last of the last", x.register(1, 15), 0);
  }

  private static void globalShowsValues() {
    promises(7, "GLOBAL k, likewise.");
    AtomicRuntime x = load(
        op(CONST, 1, MIN), op(PUT, 0, 1), op(PAIR, 2, 0, 0), op(VAR, 3, 0), op(PUT, 6, 2), op(PUT, 7, 3));
    x.run(0, 6);
    due("global(0)", x.global(0), -2147483648L);
    due("global(5)", x.global(5), 0);
    due("global(6)", x.global(6), 8589934592L);
    due("global(7)", x.global(7), 17179869185L);
  }

  private static void globalRefuses() {
    promises(7, "NoSuchElementException: there is none.");
    AtomicRuntime x = busy();
    dueRefused(x, NoSuchElementException.class,
        () -> x.global(-1), () -> x.global(8), () -> x.global(MIN), () -> x.global(MAX));
  }

  // Promise 8.

  /** PLACES 0 to 2: a VAR of the least INT, a PAIR of that and the VAR, a PAIR of that PAIR and the INT. */
  private static AtomicRuntime threePlaces() {
    AtomicRuntime x = load(
        op(CONST, 1, MIN), op(VAR, 0, 1), op(PAIR, 2, 1, 0), op(PAIR, 3, 2, 1), op(ATOMIC), op(WRITE, 0, 2),
        op(COMMIT));
    x.run(0, 4);
    return x;
  }

  private static void placeSort() {
    promises(8, "what 0: 1 PAIR, 2 VAR");
    AtomicRuntime x = threePlaces();
    due("place(0, 0)", x.place(0, 0), 2);
    due("place(1, 0)", x.place(1, 0), 1);
    due("place(2, 0)", x.place(2, 0), 1);
  }

  private static void placeFirst() {
    promises(8, "1 its (first) VALUE as above");
    AtomicRuntime x = threePlaces();
    due("an INT of a VAR", x.place(0, 1), -2147483648L);
    due("an INT of a PAIR", x.place(1, 1), -2147483648L);
    due("a PAIR of a PAIR", x.place(2, 1), 8589934593L);
    x.run(0, 3);
    due("a PAIR of a VAR", x.place(0, 1), 8589934593L);
  }

  private static void placeSecond() {
    promises(8, "2 its second VALUE, of a VAR its VERSION");
    AtomicRuntime x = threePlaces();
    due("a VAR of a PAIR", x.place(1, 2), 17179869184L);
    due("an INT of a PAIR", x.place(2, 2), -2147483648L);
    due("VERSION at first", x.place(0, 2), 0);
    x.run(0, 3);
    due("VERSION", x.place(0, 2), 1);
  }

  private static void placeRefusesPlace() {
    promises(8, "NoSuchElementException: nothing is there.");
    AtomicRuntime x = threePlaces();
    dueRefused(x, NoSuchElementException.class,
        () -> x.place(-1, 0), () -> x.place(3, 0), () -> x.place(200, 0), () -> x.place(MIN, 0),
        () -> x.place(MAX, 0));
    AtomicRuntime none = new AtomicRuntime();
    dueRefused(none, NoSuchElementException.class, () -> none.place(0, 0));
    AtomicRuntime less = load(op(PAIR, 1, 0, 0), op(PAIR, 1, 0, 0));
    less.run(0, 2);
    less.collect();
    dueRefused(less, NoSuchElementException.class, () -> less.place(1, 0));
    AtomicRuntime full = load(op(PAIR, 1, 0, 0), op(JUMP, 0));
    full.run(0, 399);
    due("the last PLACE", full.place(199, 0), 1);
    dueThrow("place(200, 0)", NoSuchElementException.class, () -> full.place(200, 0));
  }

  private static void placeRefusesWhat() {
    promises(8, "IllegalArgumentException: another what.");
    AtomicRuntime x = threePlaces();
    dueRefused(x, IllegalArgumentException.class,
        () -> x.place(0, -1), () -> x.place(0, 3), () -> x.place(1, 3), () -> x.place(0, MIN),
        () -> x.place(0, MAX));
  }

  // Promises 9 to 11.

  private static void outputKeepsTheLast() {
    promises(9, "Number k of the OUTPUT, 0 the oldest that is kept.");
    AtomicRuntime x = load(op(CONST, 1, 1), op(CONST, 2, MIN), op(PRINT, 2), op(ADD, 2, 2, 1), op(JUMP, 2));
    x.run(0, 3);
    due("one alone", x.output(0), MIN);
    int[] printed = {200, 201, 400, 401};
    int now = 1;
    for (int n : printed) {
      for (; now < n; now++) {
        x.run(0, 3);
      }
      due("the oldest kept of " + n, x.output(0), MIN + n - 200);
      due("one in the middle of " + n, x.output(77), MIN + n - 123);
      due("the newest of " + n, x.output(199), MIN + n - 1);
    }
  }

  private static void outputRefuses() {
    promises(9, "IndexOutOfBoundsException: there is none.");
    AtomicRuntime none = new AtomicRuntime();
    dueRefused(none, IndexOutOfBoundsException.class, () -> none.output(0), () -> none.output(-1));
    AtomicRuntime one = ran(op(PRINT, 0), op(STOP));
    dueRefused(one, IndexOutOfBoundsException.class, () -> one.output(1), () -> one.output(-1));
    AtomicRuntime full = load(op(PRINT, 0), op(JUMP, 0));
    full.run(0, 500);
    dueThrow("output(200) of 250", IndexOutOfBoundsException.class, () -> full.output(200));
    dueThrow("output(249) of 250", IndexOutOfBoundsException.class, () -> full.output(249));
    dueThrow("output(MIN)", IndexOutOfBoundsException.class, () -> full.output(MIN));
    dueThrow("output(MAX)", IndexOutOfBoundsException.class, () -> full.output(MAX));
  }

  private static void collectAnswers() {
    promises(10, "A COLLECTION (it counts as one): how many PLACES are in use then.");
    AtomicRuntime x = load(op(PAIR, 1, 0, 0), op(PAIR, 1, 0, 0), op(STOP));
    due("of nothing", x.collect(), 0);
    due("it counts", x.count(COLLECTIONS), 1);
    x.run(0, 2);
    due("one of two", x.collect(), 1);
    due("and again", x.collect(), 1);
    dueCounts("it is no STEP", x, 3, 1, 1, 0, 0, 3, 2, 0, 0);
    x.run(0, 1);
    due("all go", x.collect(), 0);
    AtomicRuntime full = load(op(PAIR, 1, 1, 0), op(JUMP, 0));
    full.run(0, 399);
    due("all stay", full.collect(), 200);
  }

  private static void countsAtTheirEdges() {
    promises(11, "0 INSTRUCTIONS of the PROGRAM; 1 THREADS; 2 PLACES in use; 3 CLOCK; 4 ABORTS; 5 COLLECTIONS");
    AtomicRuntime program = load(times(1000, op(STOP)));
    due("INSTRUCTIONS, all", program.count(0), 1000);
    program.run(0, 1);
    due("INSTRUCTIONS stay", program.count(0), 1000);
    AtomicRuntime threads = load(op(FORK, 0, 0), op(JUMP, 1));
    threads.turn(1);
    due("THREADS, all", threads.count(1), 16);
    AtomicRuntime places = load(op(PAIR, 1, 1, 0), op(JUMP, 0));
    places.run(0, 399);
    due("PLACES, all", places.count(2), 200);
    due("no COLLECTION yet", places.count(5), 0);
    places.run(0, 2);
    due("PLACES, all that stayed", places.count(2), 200);
    due("a COLLECTION that freed none", places.count(5), 1);
    AtomicRuntime clock = load(withRival(op(ATOMIC), op(READ, 2, 0), op(WRITE, 0, 2), op(COMMIT)));
    clock.run(0, 6);
    rivalCommits(clock);
    due("CLOCK", clock.count(3), 1);
    due("no ABORT yet", clock.count(4), 0);
    clock.run(0, 1);
    due("CLOCK stays at an abort", clock.count(3), 1);
    due("an ABORT", clock.count(4), 1);
    clock.run(0, 3);
    due("CLOCK, 2 WRITES", clock.count(3), 2);
    due("ABORTS stay", clock.count(4), 1);
  }

  private static void countOfOutput() {
    promises(11, "7 numbers in the OUTPUT");
    AtomicRuntime x = load(op(PRINT, 0), op(JUMP, 0));
    due("none", x.count(7), 0);
    x.run(0, 397);
    due("199", x.count(7), 199);
    x.run(0, 2);
    due("200", x.count(7), 200);
    x.run(0, 2);
    due("of 201 those that are kept", x.count(7), 200);
  }

  private static void countOfSteps() {
    promises(11, "6 STEPS in all");
    AtomicRuntime x = load(op(FORK, 1, 9), op(ATOMIC), op(RETRY));
    due("a FAULT, a RETRY and a FORK are STEPS", x.turn(100), 4);
    due("those of all THREADS", x.count(6), 4);
    x.run(0, 500);
    due("none of who is not READY", x.count(6), 4);
  }

  private static void countOfTheStuck() {
    promises(11, "8 1 if no THREAD is READY and one is PARKED");
    AtomicRuntime x = load(op(FORK, 1, 3), op(ATOMIC), op(RETRY), op(JUMP, 3));
    due("READY alone", x.count(8), 0);
    x.run(0, 3);
    due("one PARKED, one READY", x.count(8), 0);
    int[][][] ends = {rows(op(STOP)), rows(op(RET)), rows(op(ATOMIC), op(RETRY))};
    for (int[][] end : ends) {
      AtomicRuntime before = load(join(rows(op(FORK, 1, 3), op(ATOMIC), op(RETRY)), end));
      before.turn(4);
      due("PARKED, and one behind it at rest", before.count(8), 1);
      AtomicRuntime behind = load(join(rows(op(FORK, 1, 3), op(JUMP, 5), op(STOP), op(ATOMIC), op(RETRY)), end));
      behind.turn(4);
      due("PARKED, and one before it at rest", behind.count(8), 1);
    }
    due("DONE alone", ran(op(STOP)).count(8), 0);
    due("FAILED alone", ran(op(RET)).count(8), 0);
  }

  private static void countOfNothing() {
    promises(11, "Else -1.");
    AtomicRuntime x = busy();
    for (int what : new int[] {-1, 9, 10, MIN, MAX}) {
      due("count(" + what + ")", x.count(what), -1);
    }
  }
}
