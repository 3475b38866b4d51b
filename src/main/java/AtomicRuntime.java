import java.util.ArrayList;
import java.util.Arrays;
import java.util.NoSuchElementException;

/**
 * Runs programs of threads that share variables by transactions.
 *
 * A value is kept as the document answers it: an INT as it is, a PAIR at p as 2^33 + p, a VAR at p
 * as 2^34 + p. So registers, globals, logs and places are rows of longs, and the collection treats
 * them all alike.
 */
public final class AtomicRuntime {
  private static final int MOST_INSTRUCTIONS = 1000;
  private static final int MOST_THREADS = 16;
  private static final int REGISTERS = 16;
  private static final int GLOBALS = 8;
  private static final int MOST_CALLS = 40;
  private static final int MOST_NESTS = 24;
  private static final int MOST_LOGGED = 40;
  private static final int PLACES = 200;
  private static final int MOST_PRINTED = 200;
  private static final int MOST_STEPS = 500;
  private static final int MOST_ROUNDS = 100;
  private static final int CODE_REGISTER = 15;

  private static final long PAIR_AT = 1L << 33;
  private static final long VAR_AT = 1L << 34;

  private static final int SORT_INT = 0;
  private static final int SORT_PAIR = 1;
  private static final int SORT_VAR = 2;

  private static final int READY = 1;
  private static final int PARKED = 2;
  private static final int DONE = 3;
  private static final int FAILED = 4;

  private static final int NO_FAULT = 0;
  private static final int BAD_OPERAND = -1;
  private static final int BAD_CALL = -2;
  private static final int NO_ROOM = -3;
  private static final int BAD_NEST = -4;
  private static final int LOG_FULL = -5;

  private static final int NEST_ATOMIC = 0;
  private static final int NEST_OR = 1;
  private static final int NEST_TRY = 2;

  private static final int ANYWHERE = 0;
  private static final int OUTSIDE = 1;
  private static final int INSIDE = 2;

  private final ArrayList<Instruction> program = new ArrayList<Instruction>();
  private final ArrayList<Strand> strands = new ArrayList<Strand>();
  private final long[] globals = new long[GLOBALS];
  private final Heap heap = new Heap();
  private final Printout printout = new Printout();
  private int clock = 0;
  private int aborts = 0;
  private int collections = 0;
  private int steps = 0;

  public AtomicRuntime() {
    strands.add(new Strand(0));
  }

  public int put(int op, int a, int b, int c) throws IllegalStateException {
    int number = program.size();
    if (number >= MOST_INSTRUCTIONS) {
      throw new IllegalStateException();
    }
    program.add(new Instruction(op, a, b, c));
    return number;
  }

  public int run(int thread, int n) throws NoSuchElementException, IllegalArgumentException {
    if (thread < 0 || thread >= strands.size()) {
      throw new NoSuchElementException();
    }
    if (n < 1 || n > MOST_STEPS) {
      throw new IllegalArgumentException();
    }
    Strand strand = strands.get(thread);
    int done = 0;
    while (done < n && strand.state == READY) {
      step(strand);
      done++;
    }
    return done;
  }

  public int turn(int n) throws IllegalArgumentException {
    if (n < 1 || n > MOST_ROUNDS) {
      throw new IllegalArgumentException();
    }
    int before = steps;
    for (int round = 0; round < n; round++) {
      // The size is asked for each time: a strand that is forked has its turn in the same round.
      for (int i = 0; i < strands.size() && i < MOST_THREADS; i++) {
        Strand strand = strands.get(i);
        if (strand.state == READY) {
          step(strand);
        }
      }
    }
    return steps - before;
  }

  public int thread(int thread, int what)
      throws NoSuchElementException, IllegalArgumentException {
    if (thread < 0 || thread >= strands.size()) {
      throw new NoSuchElementException();
    }
    Strand strand = strands.get(thread);
    switch (what) {
      case 0: return strand.state;
      case 1: return strand.code;
      case 2: return strand.pc;
      case 3: return strand.calls;
      case 4: return strand.nests;
      case 5: return strand.log.reads;
      case 6: return strand.log.writes;
      case 7: return strand.isInTransaction() ? strand.log.start : -1;
      default: throw new IllegalArgumentException();
    }
  }

  public long register(int thread, int k) throws NoSuchElementException {
    if (thread < 0 || thread >= strands.size() || k < 0 || k >= REGISTERS) {
      throw new NoSuchElementException();
    }
    return strands.get(thread).registers[k];
  }

  public long global(int k) throws NoSuchElementException {
    if (k < 0 || k >= GLOBALS) {
      throw new NoSuchElementException();
    }
    return globals[k];
  }

  public long place(int p, int what) throws NoSuchElementException, IllegalArgumentException {
    if (p < 0 || p >= heap.used) {
      throw new NoSuchElementException();
    }
    switch (what) {
      case 0: return heap.sorts[p];
      case 1: return heap.firsts[p];
      case 2: return heap.seconds[p];
      default: throw new IllegalArgumentException();
    }
  }

  public int output(int k) throws IndexOutOfBoundsException {
    if (k < 0 || k >= printout.kept) {
      throw new IndexOutOfBoundsException();
    }
    return printout.numberAt(k);
  }

  public int collect() {
    markAndSlide();
    return heap.used;
  }

  public int count(int what) {
    switch (what) {
      case 0: return program.size();
      case 1: return strands.size();
      case 2: return heap.used;
      case 3: return clock;
      case 4: return aborts;
      case 5: return collections;
      case 6: return steps;
      case 7: return printout.kept;
      case 8: return isDeadlocked() ? 1 : 0;
      default: return -1;
    }
  }

  private boolean isDeadlocked() {
    boolean parked = false;
    for (int i = 0; i < strands.size(); i++) {
      int state = strands.get(i).state;
      if (state == READY) {
        return false;
      }
      parked = parked || state == PARKED;
    }
    return parked;
  }

  private static int sortOf(long value) {
    return value >= VAR_AT ? SORT_VAR : value >= PAIR_AT ? SORT_PAIR : SORT_INT;
  }

  private static int placeOf(long value) {
    return (int) (value & (PAIR_AT - 1));
  }

  private void step(Strand strand) {
    int at = strand.pc;
    steps++;
    strand.pc = at + 1;
    int fault = BAD_OPERAND;
    if (at >= 0 && at < program.size()) {
      fault = perform(strand, program.get(at));
    }
    if (fault != NO_FAULT) {
      strand.fail(fault);
    }
  }

  private int perform(Strand strand, Instruction in) {
    int fault = faultBefore(strand, in);
    if (fault != NO_FAULT) {
      return fault;
    }
    Op op = Op.ALL[in.number];
    if ((op == Op.PAIR || op == Op.VAR) && heap.used >= PLACES) {
      markAndSlide();
      if (heap.used >= PLACES) {
        return NO_ROOM;
      }
    }
    switch (op) {
      case READ:
        return readVar(strand, in.a, in.b);
      case WRITE:
        return writeVar(strand, in.a, in.b);
      case COMMIT:
        commit(strand);
        break;
      case RETRY:
        retry(strand);
        break;
      case THROW:
        raise(strand, (int) strand.registers[in.a]);
        break;
      case ATOMIC: case OR: case TRY: case END:
        openOrEnd(strand, op, in.a);
        break;
      default:
        performPlainly(strand, op, in);
        break;
    }
    return NO_FAULT;
  }

  /**
   * The order of the checks is the document's order of the faults. LOG_FULL and NO_ROOM come later:
   * an abort goes before the one, a collection before the other, and no instruction has both.
   */
  private static int faultBefore(Strand strand, Instruction in) {
    if (in.number < 0 || in.number >= Op.ALL.length) {
      return BAD_OPERAND;
    }
    Op op = Op.ALL[in.number];
    if (!operandsFit(strand, op, in)) {
      return BAD_OPERAND;
    }
    if (!nestsFit(strand, op)) {
      return BAD_NEST;
    }
    return callsFit(strand, op) ? NO_FAULT : BAD_CALL;
  }

  private static boolean operandsFit(Strand strand, Op op, Instruction in) {
    return operandFits(strand, op.operands.charAt(0), in.a)
        && operandFits(strand, op.operands.charAt(1), in.b)
        && operandFits(strand, op.operands.charAt(2), in.c);
  }

  /** The signs of Op.operands: what has to be at an operand. */
  private static boolean operandFits(Strand strand, char sign, int operand) {
    if (sign == '-') {
      return true;
    }
    if (sign == 'G') {
      return operand >= 0 && operand < GLOBALS;
    }
    if (operand < 0 || operand >= REGISTERS) {
      return false;
    }
    long value = strand.registers[operand];
    switch (sign) {
      case 'I': return sortOf(value) == SORT_INT;
      case 'P': return sortOf(value) == SORT_PAIR;
      case 'V': return sortOf(value) == SORT_VAR;
      case 'C': return sortOf(value) == SORT_INT && value >= 0;
      default: return true;
    }
  }

  private static boolean nestsFit(Strand strand, Op op) {
    boolean inside = strand.isInTransaction();
    if (op.where == INSIDE && !inside || op.where == OUTSIDE && inside) {
      return false;
    }
    switch (op) {
      case STOP:
        return strand.nests == 0;
      case ATOMIC: case OR: case TRY:
        return strand.nests < MOST_NESTS;
      case COMMIT:
        return strand.atomic == strand.nests - 1;
      case END:
        return strand.nests > 0 && strand.atomic != strand.nests - 1;
      default:
        return true;
    }
  }

  private static boolean callsFit(Strand strand, Op op) {
    if (op == Op.CALL) {
      return strand.calls < MOST_CALLS;
    }
    return op != Op.RET || strand.calls > strand.callsOfInnermostNest();
  }

  private void performPlainly(Strand strand, Op op, Instruction in) {
    long[] r = strand.registers;
    int a = in.a;
    int b = in.b;
    int c = in.c;
    switch (op) {
      case STOP: strand.state = DONE; break;
      case CONST: r[a] = b; break;
      case MOVE: r[a] = r[b]; break;
      case ADD: r[a] = (int) (r[b] + r[c]); break;
      case SUB: r[a] = (int) (r[b] - r[c]); break;
      case MUL: r[a] = (int) (r[b] * r[c]); break;
      case LESS: r[a] = r[b] < r[c] ? 1 : 0; break;
      case SAME: r[a] = r[b] == r[c] ? 1 : 0; break;
      case JUMP: strand.pc = a; break;
      case ZERO: strand.pc = r[a] == 0 ? b : strand.pc; break;
      case CALL: strand.enter(a); break;
      case RET: strand.leave(); break;
      case PAIR: r[a] = heap.newPair(r[b], r[c]); break;
      case FIRST: r[a] = heap.firsts[placeOf(r[b])]; break;
      case SECOND: r[a] = heap.seconds[placeOf(r[b])]; break;
      case VAR: r[a] = heap.newVar(r[b]); break;
      case FORK: fork(strand, a, b); break;
      case PRINT: printout.append((int) r[a]); break;
      case PUT: globals[a] = r[b]; break;
      case GET: r[a] = globals[b]; break;
      case SORT: r[a] = sortOf(r[b]); break;
      default: break;
    }
  }

  private void openOrEnd(Strand strand, Op op, int a) {
    switch (op) {
      case ATOMIC:
        strand.openNest(NEST_ATOMIC, strand.pc);
        strand.log.begin(clock);
        break;
      case OR:
        strand.openNest(NEST_OR, a);
        break;
      case TRY:
        strand.openNest(NEST_TRY, a);
        break;
      default:
        strand.dropNestsTo(strand.nests - 1);
        strand.pc = a;
        break;
    }
  }

  private void fork(Strand strand, int a, int pc) {
    int number = strands.size();
    if (number >= MOST_THREADS) {
      strand.registers[a] = -1;
      return;
    }
    strand.registers[a] = number;
    Strand forked = new Strand(pc);
    System.arraycopy(strand.registers, 0, forked.registers, 0, REGISTERS);
    strands.add(forked);
  }

  private int readVar(Strand strand, int a, int b) {
    Log log = strand.log;
    int place = placeOf(strand.registers[b]);
    int write = log.lastWriteOf(place);
    if (write >= 0) {
      strand.registers[a] = log.writeValues[write];
      return NO_FAULT;
    }
    if (heap.seconds[place] > log.start) {
      abort(strand);
      return NO_FAULT;
    }
    if (!log.hasRead(place)) {
      if (log.reads >= MOST_LOGGED) {
        return LOG_FULL;
      }
      log.addRead(place);
    }
    strand.registers[a] = heap.firsts[place];
    return NO_FAULT;
  }

  private int writeVar(Strand strand, int a, int b) {
    if (strand.log.writes >= MOST_LOGGED) {
      return LOG_FULL;
    }
    strand.log.addWrite(placeOf(strand.registers[a]), strand.registers[b]);
    return NO_FAULT;
  }

  private void abort(Strand strand) {
    aborts++;
    strand.beginAgain(clock);
  }

  private void commit(Strand strand) {
    Log log = strand.log;
    if (!log.isValid(heap)) {
      abort(strand);
      return;
    }
    strand.dropNestsTo(strand.nests - 1);
    if (log.writes > 0) {
      clock++;
      for (int i = 0; i < log.writes; i++) {
        heap.assign(log.writePlaces[i], log.writeValues[i], clock);
      }
      wakeReadersOf(log);
    }
    log.clear();
  }

  private void wakeReadersOf(Log written) {
    for (int i = 0; i < strands.size(); i++) {
      Strand strand = strands.get(i);
      if (strand.state == PARKED && strand.log.readsOneThatIsIn(written)) {
        strand.state = READY;
        strand.beginAgain(clock);
      }
    }
  }

  private void retry(Strand strand) {
    for (int nest = strand.nests - 1; nest > strand.atomic; nest--) {
      if (strand.nestSorts[nest] == NEST_OR) {
        strand.rollBackTo(nest);
        return;
      }
    }
    if (strand.log.isValid(heap)) {
      strand.state = PARKED;
    } else {
      abort(strand);
    }
  }

  private void raise(Strand strand, int code) {
    // The nests that are passed here go with what the loop ends in: a roll back or a failure.
    for (int nest = strand.nests - 1; nest >= 0; nest--) {
      int sort = strand.nestSorts[nest];
      if (sort == NEST_TRY) {
        strand.rollBackTo(nest);
        strand.registers[CODE_REGISTER] = code;
        return;
      }
      if (sort == NEST_ATOMIC) {
        if (!strand.log.isValid(heap)) {
          abort(strand);
          return;
        }
        strand.log.clear();
      }
    }
    strand.fail(code);
  }

  private void markAndSlide() {
    collections++;
    heap.beginMarking();
    heap.reachRow(globals, GLOBALS);
    for (int i = 0; i < strands.size(); i++) {
      reachFrom(strands.get(i));
    }
    heap.reachOnward();
    heap.slide();
    heap.followRow(globals, GLOBALS);
    for (int i = 0; i < strands.size(); i++) {
      followIn(strands.get(i));
    }
  }

  private void reachFrom(Strand strand) {
    heap.reachRow(strand.registers, strand.registersKept());
    heap.reachRow(strand.nestRegisters, strand.nests * REGISTERS);
    heap.reachPlaces(strand.log.readPlaces, strand.log.reads);
    heap.reachPlaces(strand.log.writePlaces, strand.log.writes);
    heap.reachRow(strand.log.writeValues, strand.log.writes);
  }

  private void followIn(Strand strand) {
    strand.forgetPlacesFrom(strand.registersKept());
    heap.followRow(strand.registers, strand.registersKept());
    heap.followRow(strand.nestRegisters, strand.nests * REGISTERS);
    heap.followPlaces(strand.log.readPlaces, strand.log.reads);
    heap.followPlaces(strand.log.writePlaces, strand.log.writes);
    heap.followRow(strand.log.writeValues, strand.log.writes);
  }

  /**
   * The instructions by their numbers, with a sign for each operand: R a REGISTER, I, P, V one that
   * has an INT, a PAIR, a VAR, C one that has a code (an INT, 0 or more), G a GLOBAL, - any number.
   */
  private enum Op {
    STOP("---", OUTSIDE),
    CONST("R--", ANYWHERE),
    MOVE("RR-", ANYWHERE),
    ADD("RII", ANYWHERE),
    SUB("RII", ANYWHERE),
    MUL("RII", ANYWHERE),
    LESS("RII", ANYWHERE),
    SAME("RRR", ANYWHERE),
    JUMP("---", ANYWHERE),
    ZERO("R--", ANYWHERE),
    CALL("---", ANYWHERE),
    RET("---", ANYWHERE),
    PAIR("RRR", ANYWHERE),
    FIRST("RP-", ANYWHERE),
    SECOND("RP-", ANYWHERE),
    VAR("RR-", ANYWHERE),
    READ("RV-", INSIDE),
    WRITE("VR-", INSIDE),
    ATOMIC("---", OUTSIDE),
    COMMIT("---", INSIDE),
    OR("---", INSIDE),
    END("---", ANYWHERE),
    TRY("---", ANYWHERE),
    RETRY("---", INSIDE),
    THROW("C--", ANYWHERE),
    FORK("R--", OUTSIDE),
    PRINT("I--", OUTSIDE),
    PUT("GR-", OUTSIDE),
    GET("RG-", ANYWHERE),
    SORT("RR-", ANYWHERE);

    private static final Op[] ALL = values();

    private final String operands;
    private final int where;

    Op(String operands, int where) {
      this.operands = operands;
      this.where = where;
    }
  }

  private static final class Instruction {
    private final int number;
    private final int a;
    private final int b;
    private final int c;

    private Instruction(int number, int a, int b, int c) {
      this.number = number;
      this.a = a;
      this.b = b;
      this.c = c;
    }
  }

  /** A THREAD of the document, with its calls, its NESTS and its log. */
  private static final class Strand {
    private final long[] registers = new long[REGISTERS];
    private final int[] returns = new int[MOST_CALLS];
    private final int[] nestSorts = new int[MOST_NESTS];
    private final int[] nestAlts = new int[MOST_NESTS];
    private final int[] nestCalls = new int[MOST_NESTS];
    private final int[] nestWrites = new int[MOST_NESTS];
    // All saved registers lie in one row, nest by nest, so that the collection goes over one row.
    private final long[] nestRegisters = new long[MOST_NESTS * REGISTERS];
    private final Log log = new Log();
    private int state = READY;
    private int code = 0;
    private int pc;
    private int calls = 0;
    private int nests = 0;
    // Where the ATOMIC nest is (there is never more than one), -1 without a transaction.
    private int atomic = -1;

    private Strand(int pc) {
      this.pc = pc;
    }

    private boolean isInTransaction() {
      return atomic >= 0;
    }

    private int callsOfInnermostNest() {
      return nests > 0 ? nestCalls[nests - 1] : 0;
    }

    private void enter(int target) {
      returns[calls] = pc;
      calls++;
      pc = target;
    }

    private void leave() {
      calls--;
      pc = returns[calls];
    }

    private void openNest(int sort, int alt) {
      if (sort == NEST_ATOMIC) {
        atomic = nests;
      }
      nestSorts[nests] = sort;
      nestAlts[nests] = alt;
      nestCalls[nests] = calls;
      nestWrites[nests] = log.writes;
      System.arraycopy(registers, 0, nestRegisters, nests * REGISTERS, REGISTERS);
      nests++;
    }

    private void dropNestsTo(int kept) {
      nests = kept;
      if (atomic >= kept) {
        atomic = -1;
      }
    }

    private void restore(int nest) {
      // RET never leaves a call that was there before the nest, so the number alone restores them.
      calls = nestCalls[nest];
      pc = nestAlts[nest];
      System.arraycopy(nestRegisters, nest * REGISTERS, registers, 0, REGISTERS);
    }

    private void rollBackTo(int nest) {
      restore(nest);
      log.writes = nestWrites[nest];
      dropNestsTo(nest);
    }

    private void beginAgain(int clock) {
      restore(atomic);
      dropNestsTo(atomic + 1);
      log.begin(clock);
    }

    private void fail(int why) {
      state = FAILED;
      code = why;
      dropNestsTo(0);
      log.clear();
    }

    /** How many registers, from 0 on, keep what they reach through a collection. */
    private int registersKept() {
      return state == DONE ? 1 : state == FAILED ? 0 : REGISTERS;
    }

    private void forgetPlacesFrom(int kept) {
      for (int k = kept; k < REGISTERS; k++) {
        if (registers[k] >= PAIR_AT) {
          registers[k] = 0;
        }
      }
    }
  }

  /** READS, WRITES and START of a transaction; empty without one. */
  private static final class Log {
    private final int[] readPlaces = new int[MOST_LOGGED];
    private final int[] writePlaces = new int[MOST_LOGGED];
    private final long[] writeValues = new long[MOST_LOGGED];
    private int reads = 0;
    private int writes = 0;
    private int start = 0;

    private void begin(int clock) {
      reads = 0;
      writes = 0;
      start = clock;
    }

    private void clear() {
      reads = 0;
      writes = 0;
    }

    private boolean isValid(Heap heap) {
      for (int i = 0; i < reads; i++) {
        if (heap.seconds[readPlaces[i]] > start) {
          return false;
        }
      }
      return true;
    }

    private boolean hasRead(int place) {
      for (int i = 0; i < reads; i++) {
        if (readPlaces[i] == place) {
          return true;
        }
      }
      return false;
    }

    private int lastWriteOf(int place) {
      for (int i = writes - 1; i >= 0; i--) {
        if (writePlaces[i] == place) {
          return i;
        }
      }
      return -1;
    }

    private void addRead(int place) {
      readPlaces[reads] = place;
      reads++;
    }

    private void addWrite(int place, long value) {
      writePlaces[writes] = place;
      writeValues[writes] = value;
      writes++;
    }

    private boolean readsOneThatIsIn(Log written) {
      for (int i = 0; i < reads; i++) {
        if (written.lastWriteOf(readPlaces[i]) >= 0) {
          return true;
        }
      }
      return false;
    }
  }

  /**
   * The places. A VAR's version stands where a PAIR's second value does: it is far below the
   * encodings of places, so the collection takes it for an INT and leaves it alone.
   */
  private static final class Heap {
    private static final int UNREACHED = -1;

    private final int[] sorts = new int[PLACES];
    private final long[] firsts = new long[PLACES];
    private final long[] seconds = new long[PLACES];
    private final int[] reached = new int[PLACES];
    private final int[] targets = new int[PLACES];
    private int used = 0;
    private int reachedCount = 0;

    private long newPair(long first, long second) {
      return PAIR_AT + fillNext(SORT_PAIR, first, second);
    }

    private long newVar(long value) {
      return VAR_AT + fillNext(SORT_VAR, value, 0);
    }

    private int fillNext(int sort, long first, long second) {
      int place = used;
      sorts[place] = sort;
      firsts[place] = first;
      seconds[place] = second;
      used++;
      return place;
    }

    private void assign(int place, long value, int version) {
      firsts[place] = value;
      seconds[place] = version;
    }

    private void beginMarking() {
      Arrays.fill(targets, UNREACHED);
      reachedCount = 0;
    }

    private void reachRow(long[] row, int length) {
      for (int i = 0; i < length; i++) {
        reach(row[i]);
      }
    }

    private void reachPlaces(int[] places, int length) {
      for (int i = 0; i < length; i++) {
        reach(VAR_AT + places[i]);
      }
    }

    private void reach(long value) {
      if (value < PAIR_AT) {
        return;
      }
      int place = placeOf(value);
      if (targets[place] == UNREACHED) {
        targets[place] = place;
        reached[reachedCount] = place;
        reachedCount++;
      }
    }

    private void reachOnward() {
      // What is reached here comes to the same row, so the loop goes over it as well.
      for (int i = 0; i < reachedCount && i < PLACES; i++) {
        reach(firsts[reached[i]]);
        reach(seconds[reached[i]]);
      }
    }

    private void slide() {
      int kept = 0;
      for (int place = 0; place < used; place++) {
        if (targets[place] != UNREACHED) {
          targets[place] = kept;
          sorts[kept] = sorts[place];
          firsts[kept] = firsts[place];
          seconds[kept] = seconds[place];
          kept++;
        }
      }
      used = kept;
      followRow(firsts, used);
      followRow(seconds, used);
    }

    private void followRow(long[] row, int length) {
      for (int i = 0; i < length; i++) {
        if (row[i] >= PAIR_AT) {
          int place = placeOf(row[i]);
          row[i] = row[i] - place + targets[place];
        }
      }
    }

    private void followPlaces(int[] places, int length) {
      for (int i = 0; i < length; i++) {
        places[i] = targets[places[i]];
      }
    }
  }

  /** The OUTPUT: a ring that keeps the newest numbers. */
  private static final class Printout {
    private final int[] numbers = new int[MOST_PRINTED];
    private int oldest = 0;
    private int kept = 0;

    private void append(int number) {
      numbers[(oldest + kept) % MOST_PRINTED] = number;
      if (kept < MOST_PRINTED) {
        kept++;
      } else {
        oldest = (oldest + 1) % MOST_PRINTED;
      }
    }

    private int numberAt(int k) {
      return numbers[(oldest + k) % MOST_PRINTED];
    }
  }
}
