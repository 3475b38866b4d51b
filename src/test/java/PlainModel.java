import java.util.ArrayList;
import java.util.Collections;
import java.util.IdentityHashMap;
import java.util.List;
import java.util.Map;

/**
 * A second writing of the document, made to be unlike the class: values are objects, a PLACE is
 * where a cell stands in a list, nests hold whole copies, faults are exceptions. Wrong arguments of
 * the face are not modelled.
 */
final class PlainModel {
  static final class Cell {
    boolean isVar;
    Object first;
    Object second;
    int version;
  }

  private static final class Write {
    final Cell cell;
    final Object value;

    Write(Cell cell, Object value) {
      this.cell = cell;
      this.value = value;
    }
  }

  private static final class Nest {
    final char sort;
    final int alt;
    final Object[] registers;
    final List<Integer> calls;
    final List<Write> writes;

    Nest(char sort, int alt, Task task) {
      this.sort = sort;
      this.alt = alt;
      this.registers = task.registers.clone();
      this.calls = new ArrayList<>(task.calls);
      this.writes = new ArrayList<>(task.writes);
    }
  }

  private static final class Task {
    int state = 1;
    int code;
    int pc;
    int start;
    Object[] registers = new Object[16];
    List<Integer> calls = new ArrayList<>();
    List<Nest> nests = new ArrayList<>();
    List<Cell> reads = new ArrayList<>();
    List<Write> writes = new ArrayList<>();

    Nest innermost() {
      return nests.isEmpty() ? null : nests.get(nests.size() - 1);
    }

    Nest atomic() {
      for (Nest nest : nests) {
        if (nest.sort == 'A') {
          return nest;
        }
      }
      return null;
    }

    boolean isValid() {
      for (Cell cell : reads) {
        if (cell.version > start) {
          return false;
        }
      }
      return true;
    }

    void goBackTo(Nest nest) {
      registers = nest.registers.clone();
      calls = new ArrayList<>(nest.calls);
      writes = new ArrayList<>(nest.writes);
      pc = nest.alt;
    }

    void rollBackTo(Nest nest) {
      goBackTo(nest);
      nests = new ArrayList<>(nests.subList(0, nests.indexOf(nest)));
    }
  }

  private static final class Fault extends RuntimeException {
    private static final long serialVersionUID = 1L;
    final int code;

    Fault(int code) {
      super(null, null, false, false);
      this.code = code;
    }
  }

  private final List<int[]> program = new ArrayList<>();
  private final List<Task> tasks = new ArrayList<>();
  private final Object[] globals = new Object[8];
  private final List<Integer> output = new ArrayList<>();
  private List<Cell> heap = new ArrayList<>();
  private int clock;
  private int aborts;
  private int collections;
  private int steps;

  PlainModel() {
    Task first = new Task();
    java.util.Arrays.fill(first.registers, 0);
    java.util.Arrays.fill(globals, 0);
    tasks.add(first);
  }

  void put(int op, int a, int b, int c) {
    program.add(new int[] {op, a, b, c});
  }

  int run(int number, int n) {
    Task task = tasks.get(number);
    int done = 0;
    for (int i = 0; i < n; i++) {
      if (task.state != 1) {
        break;
      }
      step(task);
      done++;
    }
    return done;
  }

  int turn(int n) {
    int done = 0;
    for (int round = 0; round < n; round++) {
      for (int i = 0; i < tasks.size(); i++) {
        done += run(i, 1);
      }
    }
    return done;
  }

  int collect() {
    collections++;
    Map<Cell, Boolean> live = new IdentityHashMap<>();
    for (Object value : globals) {
      mark(value, live);
    }
    for (Task task : tasks) {
      if (task.state == 3) {
        mark(task.registers[0], live);
      }
      if (task.state < 3) {
        markTask(task, live);
      }
    }
    List<Cell> kept = new ArrayList<>();
    for (Cell cell : heap) {
      if (live.containsKey(cell)) {
        kept.add(cell);
      }
    }
    heap = kept;
    for (Task task : tasks) {
      for (int k = task.state == 3 ? 1 : 0; k < 16 && task.state >= 3; k++) {
        if (task.registers[k] instanceof Cell) {
          task.registers[k] = 0;
        }
      }
    }
    return heap.size();
  }

  private void markTask(Task task, Map<Cell, Boolean> live) {
    for (Object value : task.registers) {
      mark(value, live);
    }
    for (Nest nest : task.nests) {
      for (Object value : nest.registers) {
        mark(value, live);
      }
    }
    for (Cell cell : task.reads) {
      mark(cell, live);
    }
    for (Write write : task.writes) {
      mark(write.cell, live);
      mark(write.value, live);
    }
  }

  private static void mark(Object value, Map<Cell, Boolean> live) {
    if (value instanceof Cell && live.put((Cell) value, true) == null) {
      mark(((Cell) value).first, live);
      mark(((Cell) value).second, live);
    }
  }

  private long shown(Object value) {
    if (!(value instanceof Cell)) {
      return (Integer) value;
    }
    Cell cell = (Cell) value;
    for (int p = 0; p < heap.size(); p++) {
      if (heap.get(p) == cell) {
        return (cell.isVar ? 1L << 34 : 1L << 33) + p;
      }
    }
    throw new IllegalStateException("a value without a place");
  }

  /** All that can be asked for, in one row. */
  List<Long> everything() {
    List<Long> all = new ArrayList<>();
    boolean ready = false;
    boolean parked = false;
    for (Task task : tasks) {
      ready |= task.state == 1;
      parked |= task.state == 2;
    }
    long[] counts = {
      program.size(), tasks.size(), heap.size(), clock, aborts, collections, steps,
      Math.min(200, output.size()), !ready && parked ? 1 : 0
    };
    for (long count : counts) {
      all.add(count);
    }
    for (Task task : tasks) {
      boolean inside = task.atomic() != null;
      int[] whats = {
        task.state, task.code, task.pc, task.calls.size(), task.nests.size(), task.reads.size(),
        task.writes.size(), inside ? task.start : -1
      };
      for (int what : whats) {
        all.add((long) what);
      }
      for (Object value : task.registers) {
        all.add(shown(value));
      }
    }
    for (Object value : globals) {
      all.add(shown(value));
    }
    for (Cell cell : heap) {
      all.add(cell.isVar ? 2L : 1L);
      all.add(shown(cell.first));
      all.add(cell.isVar ? cell.version : shown(cell.second));
    }
    for (int number : output.subList(Math.max(0, output.size() - 200), output.size())) {
      all.add((long) number);
    }
    return all;
  }

  private void step(Task task) {
    steps++;
    int at = task.pc;
    task.pc = at + 1;
    try {
      if (at < 0 || at >= program.size()) {
        throw new Fault(-1);
      }
      int[] row = program.get(at);
      perform(task, row[0], row[1], row[2], row[3]);
    } catch (Fault fault) {
      fail(task, fault.code);
    }
  }

  private static void fail(Task task, int code) {
    task.state = 4;
    task.code = code;
    task.nests.clear();
    task.reads.clear();
    task.writes.clear();
  }

  private static void need(boolean is, int code) {
    if (!is) {
      throw new Fault(code);
    }
  }

  private static Object value(Task task, int k) {
    need(k >= 0 && k <= 15, -1);
    return task.registers[k];
  }

  private static int number(Task task, int k) {
    need(value(task, k) instanceof Integer, -1);
    return (Integer) task.registers[k];
  }

  private static Cell cell(Task task, int k, boolean isVar) {
    need(value(task, k) instanceof Cell && ((Cell) task.registers[k]).isVar == isVar, -1);
    return (Cell) task.registers[k];
  }

  private static void set(Task task, int k, Object value) {
    task.registers[k] = value;
  }

  private void inside(Task task, boolean yes) {
    need((task.atomic() != null) == yes, -4);
  }

  private void perform(Task task, int op, int a, int b, int c) {
    switch (op) {
      case 0:
        need(task.nests.isEmpty(), -4);
        task.state = 3;
        return;
      case 1: value(task, a); set(task, a, b); return;
      case 2: value(task, a); set(task, a, value(task, b)); return;
      case 3: value(task, a); set(task, a, number(task, b) + number(task, c)); return;
      case 4: value(task, a); set(task, a, number(task, b) - number(task, c)); return;
      case 5: value(task, a); set(task, a, number(task, b) * number(task, c)); return;
      case 6: value(task, a); set(task, a, number(task, b) < number(task, c) ? 1 : 0); return;
      case 7:
        value(task, a);
        set(task, a, isSame(value(task, b), value(task, c)) ? 1 : 0);
        return;
      case 8: task.pc = a; return;
      case 9:
        if (Integer.valueOf(0).equals(value(task, a))) {
          task.pc = b;
        }
        return;
      case 10:
        need(task.calls.size() < 40, -2);
        task.calls.add(task.pc);
        task.pc = a;
        return;
      case 11:
        int floor = task.innermost() == null ? 0 : task.innermost().calls.size();
        need(task.calls.size() > floor, -2);
        task.pc = task.calls.remove(task.calls.size() - 1);
        return;
      case 12:
        value(task, a); value(task, b); value(task, c);
        set(task, a, make(false, value(task, b), value(task, c)));
        return;
      case 13: value(task, a); set(task, a, cell(task, b, false).first); return;
      case 14: value(task, a); set(task, a, cell(task, b, false).second); return;
      case 15:
        value(task, a); value(task, b);
        set(task, a, make(true, value(task, b), 0));
        return;
      case 29:
        value(task, a);
        Object sorted = value(task, b);
        set(task, a, sorted instanceof Integer ? 0 : ((Cell) sorted).isVar ? 2 : 1);
        return;
      default:
        performMore(task, op, a, b);
        return;
    }
  }

  private static boolean isSame(Object x, Object y) {
    return x == y || x instanceof Integer && x.equals(y);
  }

  private Cell make(boolean isVar, Object first, Object second) {
    if (heap.size() == 200) {
      collect();
    }
    need(heap.size() < 200, -3);
    Cell cell = new Cell();
    cell.isVar = isVar;
    cell.first = first;
    cell.second = second;
    heap.add(cell);
    return cell;
  }

  private void again(Task task) {
    Nest atomic = task.atomic();
    task.goBackTo(atomic);
    task.nests = new ArrayList<>(task.nests.subList(0, task.nests.indexOf(atomic) + 1));
    task.reads = new ArrayList<>();
    task.writes = new ArrayList<>();
    task.start = clock;
  }

  private void abort(Task task) {
    aborts++;
    again(task);
  }

  private void open(Task task, char sort, int alt) {
    need(task.nests.size() < 24, -4);
    task.nests.add(new Nest(sort, alt, task));
  }

  private void performMore(Task task, int op, int a, int b) {
    switch (op) {
      case 16: read(task, a, b); return;
      case 17:
        Cell written = cell(task, a, true);
        Object value = value(task, b);
        inside(task, true);
        need(task.writes.size() < 40, -5);
        task.writes.add(new Write(written, value));
        return;
      case 18:
        inside(task, false);
        open(task, 'A', task.pc);
        task.start = clock;
        return;
      case 19:
        need(task.innermost() != null && task.innermost().sort == 'A', -4);
        commit(task);
        return;
      case 20: inside(task, true); open(task, 'O', a); return;
      case 21:
        need(task.innermost() != null && task.innermost().sort != 'A', -4);
        task.nests.remove(task.nests.size() - 1);
        task.pc = a;
        return;
      case 22: open(task, 'T', a); return;
      case 23: inside(task, true); retry(task); return;
      case 24:
        int code = number(task, a);
        need(code >= 0, -1);
        raise(task, code);
        return;
      case 25:
        value(task, a);
        inside(task, false);
        fork(task, a, b);
        return;
      case 26:
        int printed = number(task, a);
        inside(task, false);
        output.add(printed);
        return;
      case 27:
        need(a >= 0 && a <= 7, -1);
        Object kept = value(task, b);
        inside(task, false);
        globals[a] = kept;
        return;
      case 28:
        value(task, a);
        need(b >= 0 && b <= 7, -1);
        set(task, a, globals[b]);
        return;
      default:
        throw new Fault(-1);
    }
  }

  private void read(Task task, int a, int b) {
    value(task, a);
    Cell cell = cell(task, b, true);
    inside(task, true);
    List<Write> newestFirst = new ArrayList<>(task.writes);
    Collections.reverse(newestFirst);
    for (Write write : newestFirst) {
      if (write.cell == cell) {
        set(task, a, write.value);
        return;
      }
    }
    if (cell.version > task.start) {
      abort(task);
      return;
    }
    if (!task.reads.contains(cell)) {
      need(task.reads.size() < 40, -5);
      task.reads.add(cell);
    }
    set(task, a, cell.first);
  }

  private void commit(Task task) {
    if (!task.isValid()) {
      abort(task);
      return;
    }
    List<Write> writes = task.writes;
    task.nests.remove(task.nests.size() - 1);
    task.writes = new ArrayList<>();
    task.reads = new ArrayList<>();
    if (writes.isEmpty()) {
      return;
    }
    clock++;
    for (Write write : writes) {
      write.cell.first = write.value;
      write.cell.version = clock;
    }
    for (Task other : tasks) {
      boolean waits = false;
      for (Write write : writes) {
        waits |= other.state == 2 && other.reads.contains(write.cell);
      }
      if (waits) {
        other.state = 1;
        again(other);
      }
    }
  }

  private void retry(Task task) {
    for (int i = task.nests.size() - 1; i > task.nests.indexOf(task.atomic()); i--) {
      if (task.nests.get(i).sort == 'O') {
        task.rollBackTo(task.nests.get(i));
        return;
      }
    }
    if (task.isValid()) {
      task.state = 2;
    } else {
      abort(task);
    }
  }

  private void raise(Task task, int code) {
    while (task.innermost() != null) {
      Nest nest = task.innermost();
      if (nest.sort == 'T') {
        task.rollBackTo(nest);
        set(task, 15, code);
        return;
      }
      if (nest.sort == 'A') {
        if (!task.isValid()) {
          abort(task);
          return;
        }
        task.reads.clear();
        task.writes.clear();
      }
      task.nests.remove(nest);
    }
    fail(task, code);
  }

  private void fork(Task task, int a, int pc) {
    if (tasks.size() == 16) {
      set(task, a, -1);
      return;
    }
    set(task, a, tasks.size());
    Task made = new Task();
    made.registers = task.registers.clone();
    made.pc = pc;
    tasks.add(made);
  }

  int threads() {
    return tasks.size();
  }
}
