/** The collection: when it comes, what stays, what follows, what becomes INT 0. */
final class CollectionTest extends Bench {
  public static void main(String[] args) {
    comesWhenFull();
    slidesInOrder();
    registersAndGlobals();
    nestsAreRoots();
    logsAreRoots();
    logsFollow();
    doneThreads();
    failedThreads();
    parkedThreads();
    deepLists();
    rings();
    variablesKeepTheirVersions();
    noRoom();
    operandsFollow();
    staysFullUntilAsked();
    finish("CollectionTest");
  }

  private static void comesWhenFull() {
    AtomicRuntime x = load(op(PAIR, 1, 0, 0), op(JUMP, 0));
    x.run(0, 399);
    due("200 places", x.count(PLACES), 200);
    due("no collection", x.count(COLLECTIONS), 0);
    x.run(0, 2);
    due("two places: what was in R(1) and the new one", x.count(PLACES), 2);
    due("a collection", x.count(COLLECTIONS), 1);
    due("the new one is behind it", x.register(0, 1), pairAt(1));
    AtomicRuntime var = load(op(VAR, 1, 0), op(JUMP, 0));
    var.run(0, 401);
    due("for a VAR too", var.register(0, 1), varAt(1));
    due("once", var.count(COLLECTIONS), 1);
  }

  private static void slidesInOrder() {
    AtomicRuntime y = load(
        op(CONST, 1, 10), op(PAIR, 9, 0, 0), op(PAIR, 2, 1, 0), op(VAR, 3, 1), op(PAIR, 9, 0, 0),
        op(PAIR, 4, 2, 3), op(VAR, 9, 0), op(VAR, 5, 4), op(CONST, 9, 0), op(JUMP, 9));
    y.run(0, 10);
    due("in use", y.count(PLACES), 7);
    due("kept", y.collect(), 4);
    due("R(2)", y.register(0, 2), pairAt(0));
    due("R(3)", y.register(0, 3), varAt(1));
    due("R(4)", y.register(0, 4), pairAt(2));
    due("R(5)", y.register(0, 5), varAt(3));
    long[][] dues = {{1, 10, 0}, {2, 10, 0}, {1, pairAt(0), varAt(1)}, {2, pairAt(2), 0}};
    for (int p = 0; p < dues.length; p++) {
      for (int what = 0; what < 3; what++) {
        due("place(" + p + ", " + what + ")", y.place(p, what), dues[p][what]);
      }
    }
    due("again", y.collect(), 4);
    due("R(5) stays", y.register(0, 5), varAt(3));
  }

  private static void registersAndGlobals() {
    int[][] all = rows();
    for (int k = 15; k >= 0; k--) {
      all = join(all, rows(op(PAIR, k, 15, 15)));
    }
    AtomicRuntime x = load(join(all, rows(op(JUMP, 16))));
    x.run(0, 17);
    due("all registers are roots", x.collect(), 16);
    AtomicRuntime y = load(
        op(VAR, 1, 0), op(PAIR, 1, 0, 0), op(PUT, 0, 1), op(VAR, 2, 0), op(PUT, 7, 2),
        op(CONST, 1, 0), op(CONST, 2, 0), op(STOP));
    y.run(0, 7);
    due("globals are roots", y.collect(), 2);
    due("GLOBAL 0", y.global(0), pairAt(0));
    due("GLOBAL 7", y.global(7), varAt(1));
    y.run(0, 1);
    due("with all threads DONE too", y.collect(), 2);
    AtomicRuntime other = load(op(PAIR, 1, 0, 0), op(PAIR, 2, 0, 0), op(FORK, 3, 5), op(CONST, 1, 0),
        op(CONST, 2, 0), op(CONST, 1, 0), op(STOP));
    other.run(0, 5);
    other.run(1, 1);
    due("registers of other threads are roots", other.collect(), 1);
    due("of thread 1", other.register(1, 2), pairAt(0));
  }

  private static void nestsAreRoots() {
    AtomicRuntime x = load(
        op(PAIR, 9, 0, 0), op(PAIR, 1, 0, 0), op(TRY, 12), op(CONST, 9, 0), op(VAR, 1, 0),
        op(ATOMIC), op(CONST, 1, 1), op(PAIR, 1, 1, 1), op(OR, 0), op(CONST, 1, 2), op(THROW, 1),
        op(STOP), op(STOP));
    x.run(0, 10);
    due("saved by three NESTS", x.collect(), 4);
    x.run(0, 1);
    due("back in R(1)", x.register(0, 1), pairAt(1));
    due("back in R(9)", x.register(0, 9), pairAt(0));
    due("NESTS that are gone reach nothing", x.collect(), 2);

    AtomicRuntime z = load(
        op(PAIR, 9, 0, 0), op(PAIR, 1, 0, 0), op(CONST, 9, 0), op(TRY, 6), op(CONST, 1, 7), op(THROW, 1), op(STOP));
    z.run(0, 5);
    z.collect();
    z.run(0, 1);
    due("the saved register has followed", z.register(0, 1), pairAt(0));
    AtomicRuntime top = load(op(PAIR, 9, 0, 0), op(PAIR, 15, 9, 9), op(CONST, 9, 0), op(TRY, 6), op(CONST, 15, 1),
        op(JUMP, 5));
    top.run(0, 5);
    due("R(15) of a NEST and what it has", top.collect(), 2);
  }

  private static void logsAreRoots() {
    AtomicRuntime x = load(
        op(ATOMIC), op(PAIR, 1, 0, 0), op(VAR, 2, 1), op(VAR, 3, 0), op(PAIR, 4, 0, 0), op(READ, 5, 2),
        op(WRITE, 3, 4), op(CONST, 1, 0), op(CONST, 2, 0), op(CONST, 3, 0), op(CONST, 4, 0), op(CONST, 5, 0));
    x.run(0, 12);
    due("a VAR of READS with its PAIR, one of WRITES, its VALUE", x.collect(), 4);
    due("first the PAIR", x.place(0, 0), 1);
    due("then the VAR of READS", x.place(1, 1), pairAt(0));
    due("then the VAR of WRITES", x.place(2, 0), 2);
    due("then the VALUE", x.place(3, 0), 1);
    add(x, op(COMMIT), op(STOP));
    x.run(0, 1);
    due("the VALUE has followed", x.place(2, 1), pairAt(3));
    due("nothing is left of the log", x.collect(), 0);
  }

  private static void logsFollow() {
    // R(2) is written to and R(3) read from; the places before them go, so both move.
    AtomicRuntime x = load(
        op(VAR, 9, 0), op(VAR, 9, 0), op(CONST, 1, 6), op(VAR, 2, 1), op(VAR, 3, 1), op(FORK, 8, 14),
        op(ATOMIC), op(CONST, 9, 0), op(READ, 4, 3), op(PAIR, 5, 1, 15), op(WRITE, 2, 5), op(READ, 6, 2),
        op(COMMIT), op(STOP), op(CONST, 9, 0), op(ATOMIC), op(WRITE, 3, 1), op(COMMIT), op(STOP));
    x.run(0, 11);
    x.run(1, 1);
    due("one goes, one is in the NEST", x.collect(), 4);
    x.run(0, 1);
    due("WRITES have followed", x.register(0, 6), pairAt(3));
    x.run(1, 9);
    due("the rival's VERSION", x.place(2, 2), 1);
    x.run(0, 1);
    due("READS have followed: not VALID", x.count(ABORTS), 1);
    x.run(0, 6);
    due("committed", x.place(1, 1), x.register(0, 5));
    due("VERSION", x.place(1, 2), 2);
  }

  private static void doneThreads() {
    AtomicRuntime x = load(
        op(PAIR, 1, 0, 0), op(PAIR, 0, 15, 15), op(VAR, 2, 0), op(CONST, 3, 33), op(MOVE, 4, 0), op(STOP));
    x.run(0, 9);
    due("in use", x.count(PLACES), 3);
    due("before it: R(1)", x.register(0, 1), pairAt(0));
    due("R(0) alone", x.collect(), 1);
    due("R(0)", x.register(0, 0), pairAt(0));
    due("R(1) becomes 0", x.register(0, 1), 0);
    due("R(2) becomes 0", x.register(0, 2), 0);
    due("R(3) is an INT", x.register(0, 3), 33);
    due("R(4) becomes 0, though its PLACE stays", x.register(0, 4), 0);
    AtomicRuntime y = load(op(PAIR, 15, 0, 0), op(STOP));
    y.run(0, 9);
    due("R(15) of a DONE thread", y.collect(), 0);
    due("becomes 0", y.register(0, 15), 0);
  }

  private static void failedThreads() {
    AtomicRuntime x = load(
        op(PAIR, 0, 15, 15), op(VAR, 15, 0), op(CONST, 3, 33), op(PUT, 0, 15), op(PAIR, 1, 3, 3), op(RET));
    x.run(0, 9);
    dueFailed("RET", x, 0, -2);
    due("what GLOBAL 0 reaches", x.collect(), 2);
    due("R(0) becomes 0", x.register(0, 0), 0);
    due("R(1) becomes 0", x.register(0, 1), 0);
    due("R(15) becomes 0, though its PLACE stays", x.register(0, 15), 0);
    due("R(3) is an INT", x.register(0, 3), 33);
    due("GLOBAL 0", x.global(0), varAt(1));
    AtomicRuntime y = load(op(TRY, 0), op(PAIR, 1, 0, 0), op(TRY, 0), op(ATOMIC), op(VAR, 2, 1), op(WRITE, 2, 1), op(RET));
    y.run(0, 9);
    due("no NESTS, no log", y.collect(), 0);
  }

  private static void parkedThreads() {
    AtomicRuntime x = load(
        op(PAIR, 9, 0, 0), op(VAR, 1, 0), op(FORK, 2, 8), op(CONST, 9, 0), op(CONST, 1, 0), op(STOP),
        op(STOP), op(STOP), op(CONST, 9, 0), op(ATOMIC), op(READ, 3, 1), op(CONST, 1, 0), op(RETRY));
    x.run(0, 9);
    x.run(1, 9);
    due("PARKED", x.thread(1, STATE), IS_PARKED);
    due("its NEST and its READS", x.collect(), 1);
    due("READS stay", x.thread(1, READS), 1);
  }

  private static void deepLists() {
    // A list of 150 PAIRS, the newest first: the marking goes from the last place to the first.
    AtomicRuntime x = load(
        op(CONST, 3, 150), op(CONST, 4, 1), op(PAIR, 9, 0, 0), op(CONST, 9, 0),
        op(PAIR, 1, 3, 1), op(SUB, 3, 3, 4), op(ZERO, 3, 8), op(JUMP, 4), op(JUMP, 8));
    for (int i = 0; i < 3; i++) {
      x.run(0, 300);
    }
    due("all are there", x.count(PLACES), 151);
    due("all but one stay", x.collect(), 150);
    due("the newest", x.register(0, 1), pairAt(149));
    for (int p = 1; p < 150; p++) {
      due("place(" + p + ", 1)", x.place(p, 1), 150 - p);
      due("place(" + p + ", 2)", x.place(p, 2), pairAt(p - 1));
    }
  }

  private static void rings() {
    AtomicRuntime x = load(
        op(PAIR, 9, 0, 0), op(VAR, 1, 0), op(PAIR, 2, 1, 1), op(ATOMIC), op(WRITE, 1, 2), op(COMMIT),
        op(CONST, 9, 0), op(CONST, 2, 0), op(CONST, 1, 0), op(STOP));
    x.run(0, 8);
    due("a ring that is reached", x.collect(), 2);
    due("the VAR", x.place(0, 1), pairAt(1));
    due("the PAIR", x.place(1, 1), varAt(0));
    due("its second", x.place(1, 2), varAt(0));
    due("the VERSION stays", x.place(0, 2), 1);
    x.run(0, 1);
    due("a ring that is not", x.collect(), 0);
  }

  private static void variablesKeepTheirVersions() {
    AtomicRuntime x = load(
        op(VAR, 9, 0), op(VAR, 1, 0), op(CONST, 9, 0), op(CONST, 2, 4), op(FORK, 3, 15),
        op(ATOMIC), op(READ, 4, 1), op(COMMIT), op(STOP));
    add(x, times(6, op(STOP)));
    add(x, op(ATOMIC), op(WRITE, 1, 2), op(COMMIT), op(ATOMIC), op(WRITE, 1, 3), op(COMMIT), op(STOP));
    x.run(0, 6);
    x.run(1, 9);
    due("VAR 0 goes", x.collect(), 1);
    due("the VERSION comes along", x.place(0, 2), 2);
    due("the VALUE too", x.place(0, 1), 1);
    x.run(0, 1);
    due("above START", x.count(ABORTS), 1);
  }

  private static void noRoom() {
    AtomicRuntime x = load(op(PAIR, 1, 0, 1), op(JUMP, 0));
    x.run(0, 400);
    due("all reached", x.count(PLACES), 200);
    due("one more", x.run(0, 9), 1);
    dueFailed("no room", x, 0, -3);
    due("the collection counts", x.count(COLLECTIONS), 1);
    due("R(1) is as it was", x.register(0, 1), pairAt(199));
    due("then nothing is reached", x.collect(), 0);

    AtomicRuntime y = load(
        op(FORK, 2, 3), op(PAIR, 1, 0, 1), op(JUMP, 1), op(PAIR, 3, 0, 0), op(JUMP, 4));
    y.run(0, 401);
    due("200 of thread 0", y.count(PLACES), 200);
    y.run(1, 1);
    dueFailed("no room for thread 1", y, 1, -3);
    due("thread 0 is READY still", y.run(0, 2), 1);
    dueFailed("and fails too", y, 0, -3);
    due("a collection each", y.count(COLLECTIONS), 2);
  }

  private static void operandsFollow() {
    // The PAIR that is made at the collection has values that the collection has moved.
    AtomicRuntime y = load(join(
        rows(op(PAIR, 9, 0, 0), op(VAR, 1, 0)), times(198, op(PAIR, 9, 0, 0)),
        rows(op(CONST, 9, 0), op(PAIR, 3, 1, 1), op(VAR, 4, 3))));
    y.run(0, 203);
    due("the VAR moved", y.register(0, 1), varAt(0));
    due("the PAIR", y.register(0, 3), pairAt(1));
    due("has the moved VAR", y.place(1, 1), varAt(0));
    due("twice", y.place(1, 2), varAt(0));
    due("and the next is behind", y.register(0, 4), varAt(2));
    AtomicRuntime z = load(join(
        rows(op(PAIR, 9, 0, 0), op(PAIR, 1, 0, 0)), times(198, op(PAIR, 9, 0, 0)),
        rows(op(CONST, 9, 0), op(VAR, 1, 1))));
    z.run(0, 202);
    due("VAR of a moved PAIR", z.place(1, 1), pairAt(0));
    due("the old place of R(1) stays", z.count(PLACES), 2);
  }

  private static void staysFullUntilAsked() {
    AtomicRuntime x = load(op(PAIR, 1, 0, 0), op(JUMP, 0));
    x.run(0, 399);
    dueThrow("place(200, 0)", java.util.NoSuchElementException.class, () -> x.place(200, 0));
    due("place(199, 0)", x.place(199, 0), 1);
    due("collect()", x.collect(), 1);
    dueThrow("place(1, 0)", java.util.NoSuchElementException.class, () -> x.place(1, 0));
    due("steps go on", x.run(0, 2), 2);
    due("the next place", x.register(0, 1), pairAt(1));
  }
}
