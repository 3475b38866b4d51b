/** The table of instructions without transactions: what each does, and its faults in their order. */
final class InstructionTest extends Bench {
  private static final int[] OPERAND_A = {
    CONST, MOVE, ADD, SUB, MUL, LESS, SAME, ZERO, PAIR, FIRST, SECOND, VAR, READ, WRITE, THROW, FORK,
    PRINT, PUT, GET, SORT
  };
  private static final int[] OPERAND_B = {
    MOVE, ADD, SUB, MUL, LESS, SAME, PAIR, FIRST, SECOND, VAR, READ, WRITE, PUT, GET, SORT
  };
  private static final int[] OPERAND_C = {ADD, SUB, MUL, LESS, SAME, PAIR};

  public static void main(String[] args) {
    arithmetic();
    moves();
    comparisons();
    jumps();
    calls();
    pairsAndSorts();
    forks();
    prints();
    globals();
    stop();
    noInstruction();
    noSuchRegister();
    onlyNamedOperandsAreLookedAt();
    mostAreAllowedInTransactions();
    otherSorts();
    orderOfFaults();
    finish("InstructionTest");
  }

  private static void binary(int number, int b, int c, int want) {
    AtomicRuntime x = ran(op(CONST, 1, b), op(CONST, 2, c), op(number, 3, 1, 2), op(STOP));
    due("op " + number + " of " + b + ", " + c, x.register(0, 3), want);
  }

  private static void arithmetic() {
    int max = Integer.MAX_VALUE;
    int min = Integer.MIN_VALUE;
    binary(ADD, 2, 3, 5);
    binary(ADD, max, 1, min);
    binary(ADD, min, min, 0);
    binary(ADD, -1, -1, -2);
    binary(SUB, 2, 3, -1);
    binary(SUB, min, 1, max);
    binary(SUB, 0, min, min);
    binary(MUL, -4, 6, -24);
    binary(MUL, min, -1, min);
    binary(MUL, 65536, 65536, 0);
    binary(MUL, max, max, 1);
    binary(MUL, 123456789, 987654321, 123456789 * 987654321);
    AtomicRuntime x = ran(op(CONST, 1, 7), op(ADD, 1, 1, 1), op(MUL, 1, 1, 1), op(SUB, 2, 1, 1), op(STOP));
    due("R(1) of R(1)", x.register(0, 1), 196);
    due("R(1) less itself", x.register(0, 2), 0);
  }

  private static void moves() {
    AtomicRuntime x = ran(op(CONST, 0, Integer.MIN_VALUE), op(PAIR, 1, 0, 0), op(MOVE, 15, 1), op(MOVE, 2, 0), op(STOP));
    due("CONST", x.register(0, 0), Integer.MIN_VALUE);
    due("MOVE of a PAIR", x.register(0, 15), pairAt(0));
    due("MOVE of an INT", x.register(0, 2), Integer.MIN_VALUE);
  }

  private static void comparisons() {
    binary(LESS, 1, 2, 1);
    binary(LESS, 2, 2, 0);
    binary(LESS, 3, 2, 0);
    binary(LESS, Integer.MIN_VALUE, Integer.MAX_VALUE, 1);
    binary(LESS, 1, -1, 0);
    binary(SAME, 5, 5, 1);
    binary(SAME, 5, -5, 0);
    AtomicRuntime x = ran(
        op(PAIR, 1, 0, 0), op(PAIR, 2, 0, 0), op(VAR, 3, 0), op(MOVE, 4, 1), op(SAME, 5, 1, 4),
        op(SAME, 6, 1, 2), op(SAME, 7, 1, 0), op(SAME, 8, 3, 3), op(SAME, 9, 3, 2), op(SAME, 10, 0, 1),
        op(STOP));
    int[] dues = {1, 0, 0, 1, 0, 0};
    for (int i = 0; i < dues.length; i++) {
      due("SAME " + i, x.register(0, 5 + i), dues[i]);
    }
  }

  private static void jumps() {
    AtomicRuntime x = ran(
        op(JUMP, 2), op(STOP), op(ZERO, 0, 4), op(STOP), op(CONST, 1, -1), op(ZERO, 1, 1),
        op(PAIR, 2, 0, 0), op(ZERO, 2, 1), op(VAR, 2, 0), op(ZERO, 2, 1), op(CONST, 3, 8), op(STOP));
    due("jumps as they should", x.register(0, 3), 8);
    due("steps", x.count(STEPS), 10);
    for (int target : new int[] {-1, 1, 1000, Integer.MIN_VALUE, Integer.MAX_VALUE}) {
      AtomicRuntime y = ran(op(JUMP, target));
      dueFailed("JUMP " + target, y, 0, -1);
      due("JUMP " + target + ": pc", y.thread(0, PC), target + 1);
      due("JUMP " + target + ": steps", y.count(STEPS), 2);
    }
    AtomicRuntime z = ran(op(ZERO, 0, -7));
    due("ZERO to no instruction: pc", z.thread(0, PC), -6);
  }

  private static void calls() {
    AtomicRuntime x = load(op(CALL, 3), op(CONST, 1, 5), op(STOP), op(CALL, 5), op(RET), op(CONST, 2, 6), op(RET));
    x.run(0, 2);
    due("two calls", x.thread(0, CALLS), 2);
    x.run(0, 9);
    due("behind the first call", x.register(0, 1), 5);
    due("in the second", x.register(0, 2), 6);
    due("no calls left", x.thread(0, CALLS), 0);
    due("steps", x.count(STEPS), 7);

    AtomicRuntime deep = load(op(CALL, 0));
    due("40 calls and a fault", deep.run(0, 500), 41);
    dueFailed("the 41st call", deep, 0, -2);
    due("the calls stay", deep.thread(0, CALLS), 40);
    due("pc is behind the call", deep.thread(0, PC), 1);

    dueFailed("RET without a call", ran(op(RET)), 0, -2);
    AtomicRuntime in = ran(op(CALL, 1), op(TRY, 0), op(RET));
    dueFailed("RET over a NEST", in, 0, -2);
    due("the call stays", in.thread(0, CALLS), 1);
    AtomicRuntime within = ran(op(CALL, 1), op(TRY, 9), op(CALL, 4), op(STOP), op(RET));
    dueFailed("RET within a NEST is fine, STOP is not", within, 0, -4);
    AtomicRuntime behind = ran(op(TRY, 9), op(CALL, 2), op(END, 3), op(RET), op(STOP));
    dueFailed("RET behind the NEST takes the call of within", behind, 0, -4);
    due("and comes behind it", behind.thread(0, PC), 3);
    due("and there are no calls", behind.thread(0, CALLS), 0);
  }

  private static void pairsAndSorts() {
    AtomicRuntime x = ran(
        op(CONST, 1, 11), op(CONST, 2, -12), op(PAIR, 3, 1, 2), op(FIRST, 4, 3), op(SECOND, 5, 3),
        op(PAIR, 3, 3, 3), op(FIRST, 6, 3), op(VAR, 7, 3), op(SORT, 8, 1), op(SORT, 9, 3),
        op(SORT, 10, 7), op(SECOND, 3, 3), op(STOP));
    due("FIRST", x.register(0, 4), 11);
    due("SECOND", x.register(0, 5), -12);
    due("FIRST that is a PAIR", x.register(0, 6), pairAt(0));
    due("R(3) of R(3)", x.register(0, 3), pairAt(0));
    due("SORT of an INT", x.register(0, 8), 0);
    due("SORT of a PAIR", x.register(0, 9), 1);
    due("SORT of a VAR", x.register(0, 10), 2);
    due("a new VAR's VERSION", x.place(2, 2), 0);
    due("a new VAR's VALUE", x.place(2, 1), pairAt(1));
  }

  private static void forks() {
    AtomicRuntime x = load(
        op(CONST, 5, 9), op(CALL, 2), op(TRY, 0), op(FORK, 6, 40), op(FORK, 6, -8));
    x.run(0, 5);
    due("three threads", x.count(THREADS), 3);
    due("number in the parent", x.register(0, 6), 2);
    due("number in the first", x.register(1, 6), 1);
    due("number in the second", x.register(2, 6), 2);
    due("copies of the registers", x.register(2, 5), 9);
    due("no calls", x.thread(1, CALLS), 0);
    due("no nests", x.thread(1, NESTS), 0);
    due("READY", x.thread(1, STATE), IS_READY);
    due("pc", x.thread(1, PC), 40);
    due("another pc", x.thread(2, PC), -8);
    due("the parent's nests stay", x.thread(0, NESTS), 1);

    AtomicRuntime many = ran(join(times(17, op(FORK, 1, 17)), rows(op(STOP))));
    due("at most 16", many.count(THREADS), 16);
    due("-1 if there are 16", many.register(0, 1), -1);
    due("the parent goes on", many.thread(0, STATE), IS_DONE);
    due("the last forked", many.register(15, 1), 15);
    for (int i = 1; i < 16; i++) {
      many.run(i, 1);
    }
    AtomicRuntime ended = load(join(times(16, op(FORK, 1, 17)), rows(op(STOP), op(STOP))));
    ended.run(0, 15);
    for (int i = 1; i < 16; i++) {
      ended.run(i, 1);
    }
    ended.run(0, 1);
    due("DONE threads keep their numbers", ended.register(0, 1), -1);
  }

  private static void prints() {
    AtomicRuntime x = ran(op(CONST, 1, Integer.MIN_VALUE), op(PRINT, 1), op(TRY, 9), op(PRINT, 0), op(END, 5), op(STOP));
    due("PRINT", x.output(0), Integer.MIN_VALUE);
    due("PRINT within TRY", x.output(1), 0);
    due("printed", x.count(PRINTED), 2);
  }

  private static void globals() {
    AtomicRuntime x = ran(
        op(CONST, 1, 4), op(PUT, 7, 1), op(GET, 2, 7), op(GET, 1, 0), op(ATOMIC), op(GET, 3, 7),
        op(COMMIT), op(STOP));
    due("GET", x.register(0, 2), 4);
    due("GET of a new one", x.register(0, 1), 0);
    due("GET in a transaction", x.register(0, 3), 4);
    due("DONE", x.thread(0, STATE), IS_DONE);
  }

  private static void stop() {
    AtomicRuntime x = ran(op(STOP));
    due("DONE", x.thread(0, STATE), IS_DONE);
    due("pc is behind STOP", x.thread(0, PC), 1);
    dueFailed("STOP in TRY", ran(op(TRY, 0), op(STOP)), 0, -4);
    dueFailed("STOP in ATOMIC", ran(op(ATOMIC), op(STOP)), 0, -4);
  }

  private static void noInstruction() {
    for (int number : new int[] {-1, 30, 31, 1000, Integer.MIN_VALUE, Integer.MAX_VALUE}) {
      AtomicRuntime x = ran(op(number, 1, 2, 3));
      dueFailed("op " + number, x, 0, -1);
      due("op " + number + ": pc", x.thread(0, PC), 1);
    }
    AtomicRuntime later = load(op(CONST, 1, 1));
    later.run(0, 2);
    later.put(STOP, 0, 0, 0);
    due("an instruction that comes later does not mend it", later.run(0, 1), 0);
    AtomicRuntime intime = load(op(CONST, 1, 1));
    intime.run(0, 1);
    intime.put(STOP, 0, 0, 0);
    intime.run(0, 1);
    due("an instruction that comes in time", intime.thread(0, STATE), IS_DONE);
  }

  /** R(0) an INT 0, R(1) an INT, R(2) a PAIR, R(3) a VAR; then a transaction where it is asked for. */
  private static AtomicRuntime amongSorts(int[] last) {
    int[][] begin = rows(op(CONST, 1, 5), op(PAIR, 2, 1, 1), op(VAR, 3, 1));
    boolean logged = last[0] == READ || last[0] == WRITE;
    return ran(join(begin, logged ? rows(op(ATOMIC)) : rows(), rows(last, op(STOP))));
  }

  private static void dueBadOperand(int number, int at, int operand, boolean bad) {
    int[] row = fitting(number);
    row[at] = operand;
    AtomicRuntime x = amongSorts(row);
    String what = "op " + number + " with operand " + at + " " + operand;
    if (bad) {
      dueFailed(what, x, 0, -1);
      due(what + ": R(1) stays", x.register(0, 1), 5);
      due(what + ": global stays", x.global(1), 0);
      due(what + ": nothing printed", x.count(PRINTED), 0);
      due(what + ": no new place", x.count(PLACES), 2);
      due(what + ": no new thread", x.count(THREADS), 1);
    } else {
      due(what + ": is no fault -1", x.thread(0, CODE) != -1 ? 1 : 0, 1);
    }
  }

  private static void noSuchRegister() {
    int[] none = {-1, 16, Integer.MIN_VALUE, Integer.MAX_VALUE};
    for (int operand : none) {
      for (int number : OPERAND_A) {
        dueBadOperand(number, 1, operand, true);
      }
      for (int number : OPERAND_B) {
        dueBadOperand(number, 2, operand, true);
      }
      for (int number : OPERAND_C) {
        dueBadOperand(number, 3, operand, true);
      }
    }
    dueBadOperand(PUT, 1, 8, true);
    dueBadOperand(GET, 2, 8, true);
    AtomicRuntime last = ran(op(MOVE, 15, 15), op(PUT, 7, 15), op(GET, 15, 7), op(ADD, 15, 15, 15), op(STOP));
    due("the last REGISTER and GLOBAL are there", last.thread(0, STATE), IS_DONE);
  }

  private static void onlyNamedOperandsAreLookedAt() {
    AtomicRuntime x = ran(
        op(CONST, 1, -1, 99), op(MOVE, 2, 1, 99), op(JUMP, 3, -1, 99), op(ZERO, 1, 99, 99),
        op(CALL, 6, -1, 99), op(JUMP, 7, 0, 0), op(RET, -1, -1, 99), op(PAIR, 3, 1, 1),
        op(FIRST, 4, 3, 99), op(SECOND, 4, 3, -1), op(VAR, 5, 1, 99), op(ATOMIC, -1, 99, 99),
        op(READ, 6, 5, 99), op(WRITE, 5, 6, -1), op(OR, 16, -1, 99), op(END, 16, -1, 99),
        op(COMMIT, -1, 99, 99), op(TRY, 19, -1, 99), op(THROW, 15, -1, 99), op(FORK, 7, 99, 99),
        op(PRINT, 1, -1, 99), op(PUT, 1, 1, 99), op(GET, 1, 1, 99), op(SORT, 1, 1, 99),
        op(STOP, -1, 99, 99));
    due("DONE", x.thread(0, STATE), IS_DONE);
    due("pc", x.thread(0, PC), 25);
    due("RETRY has none", ran(op(ATOMIC), op(RETRY, -1, 99, 99)).thread(0, STATE), IS_PARKED);
    AtomicRuntime far = ran(op(CALL, 16));
    dueFailed("CALL to 16", far, 0, -1);
    due("CALL to 16: pc", far.thread(0, PC), 17);
    due("CALL to 16: calls", far.thread(0, CALLS), 1);
    AtomicRuntime jump = ran(op(PAIR, 1, 0, 0), op(CALL, 1));
    due("CALL to 1, R(1) a PAIR", jump.thread(0, CODE), -2);
  }

  private static void mostAreAllowedInTransactions() {
    AtomicRuntime x = ran(
        op(ATOMIC), op(CONST, 1, 3), op(MOVE, 2, 1), op(ADD, 3, 1, 2), op(SUB, 4, 3, 1), op(MUL, 5, 3, 3),
        op(LESS, 6, 1, 3), op(SAME, 7, 1, 2), op(ZERO, 1, 99), op(CALL, 30), op(PAIR, 8, 1, 2),
        op(FIRST, 9, 8), op(SECOND, 10, 8), op(VAR, 11, 8), op(SORT, 12, 11), op(GET, 13, 0), op(TRY, 99),
        op(END, 18), op(JUMP, 19), op(COMMIT), op(STOP), op(STOP), op(STOP), op(STOP), op(STOP), op(STOP),
        op(STOP), op(STOP), op(STOP), op(STOP), op(RET));
    due("DONE", x.thread(0, STATE), IS_DONE);
    long[] dues = {0, 3, 3, 6, 3, 36, 1, 1, pairAt(0), 3, 3, varAt(1), 2, 0, 0, 0};
    for (int k = 0; k < dues.length; k++) {
      due("in a transaction: R(" + k + ")", x.register(0, k), dues[k]);
    }
  }

  /** Registers 1, 2, 3 have an INT, a PAIR, a VAR: each op takes those that it names, no other. */
  private static void otherSorts() {
    for (int number : new int[] {ADD, SUB, MUL, LESS}) {
      for (int other = 2; other <= 3; other++) {
        dueBadOperand(number, 2, other, true);
        dueBadOperand(number, 3, other, true);
        dueBadOperand(number, 1, other, false);
      }
    }
    for (int other : new int[] {1, 3}) {
      dueBadOperand(FIRST, 2, other, true);
      dueBadOperand(SECOND, 2, other, true);
    }
    for (int other : new int[] {1, 2}) {
      dueBadOperand(READ, 2, other, true);
      dueBadOperand(WRITE, 1, other, true);
    }
    for (int other : new int[] {2, 3}) {
      dueBadOperand(PRINT, 1, other, true);
      dueBadOperand(THROW, 1, other, true);
      dueBadOperand(ZERO, 1, other, false);
      dueBadOperand(SORT, 2, other, false);
      dueBadOperand(SAME, 3, other, false);
      dueBadOperand(WRITE, 2, other, false);
    }
    for (int number : new int[] {CONST, MOVE, SAME, PAIR, FIRST, SECOND, VAR, READ, FORK, GET, SORT}) {
      dueBadOperand(number, 1, 2, false);
      dueBadOperand(number, 1, 3, false);
    }
    for (int code : new int[] {-1, Integer.MIN_VALUE}) {
      AtomicRuntime below = ran(op(CONST, 1, code), op(TRY, 3), op(THROW, 1), op(STOP));
      dueFailed("THROW of " + code, below, 0, -1);
    }
  }

  private static void orderOfFaults() {
    dueFailed("-1 before -4: READ of an INT outside", ran(op(READ, 1, 0)), 0, -1);
    dueFailed("-1 before -4: FORK to no register", ran(op(ATOMIC), op(FORK, 16, 0)), 0, -1);
    dueFailed("-1 before -4: PRINT of a PAIR", ran(op(PAIR, 1, 0, 0), op(ATOMIC), op(PRINT, 1)), 0, -1);
    dueFailed("-1 before -4: PUT to no global", ran(op(ATOMIC), op(PUT, 8, 0)), 0, -1);
    dueFailed("-1 before -4: WRITE outside", ran(op(WRITE, 0, 0)), 0, -1);
    dueFailed("-4: READ outside", ran(op(VAR, 1, 0), op(READ, 2, 1)), 0, -4);
    dueFailed("-4: WRITE outside", ran(op(VAR, 1, 0), op(WRITE, 1, 1)), 0, -4);
    dueFailed("-4: WRITE in a TRY alone", ran(op(VAR, 1, 0), op(TRY, 0), op(WRITE, 1, 1)), 0, -4);
    int[][] full = join(rows(op(VAR, 1, 0), op(ATOMIC)), times(40, op(WRITE, 1, 1)));
    dueFailed("-1 before -5", ran(join(full, rows(op(WRITE, 0, 1)))), 0, -1);
    dueFailed("-5", ran(join(full, rows(op(WRITE, 1, 1)))), 0, -5);
    AtomicRuntime room = load(join(times(200, op(PAIR, 1, 1, 0)), rows(op(PAIR, 16, 1, 0))));
    room.run(0, 500);
    dueFailed("-1 before -3", room, 0, -1);
    due("-1 before -3: no collection", room.count(COLLECTIONS), 0);
    AtomicRuntime var = load(join(times(200, op(PAIR, 1, 1, 0)), rows(op(VAR, 2, 1))));
    var.run(0, 500);
    dueFailed("-3 for a VAR", var, 0, -3);
    due("-3: a collection", var.count(COLLECTIONS), 1);
    due("-3: the register stays", var.register(0, 2), 0);
    due("-3: all places stay", var.count(PLACES), 200);
  }
}
