import java.util.ArrayList;
import java.util.List;

/**
 * Makes many programs, runs each on the class and on PlainModel, and compares all that can be asked
 * for. The numbers are drawn from a seed, so each run of this test is the same. (All that is asked
 * for may be more than 512 calls, the limit of the document; the class keeps no count of calls.)
 */
final class ModelTest extends Bench {
  private static final int PROGRAMS = 6000;

  private final List<int[]> code = new ArrayList<>();
  private long seed;
  private boolean careful;

  private ModelTest(int number) {
    seed = number * 7919L + 17;
    careful = number % 4 != 0;
  }

  public static void main(String[] args) {
    int[] seen = new int[12];
    for (int number = 0; number < PROGRAMS; number++) {
      new ModelTest(number).compare(number, seen);
    }
    String[] names = {
      "aborts", "commits", "collections", "parked", "done", "thrown", "-1", "-2", "-3", "-4", "-5", "woken"
    };
    StringBuilder met = new StringBuilder("met:");
    for (int i = 0; i < seen.length; i++) {
      met.append(' ').append(names[i]).append(' ').append(seen[i]);
      due("programs that met " + names[i], seen[i] > 0 ? 1 : 0, 1);
    }
    System.out.println(met);
    finish("ModelTest");
  }

  private int draw(int below) {
    seed = seed * 6364136223846793005L + 1442695040888963407L;
    return (int) ((seed >>> 33) % below);
  }

  private void compare(int number, int[] seen) {
    write();
    AtomicRuntime x = new AtomicRuntime();
    PlainModel y = new PlainModel();
    for (int[] row : code) {
      x.put(row[0], row[1], row[2], row[3]);
      y.put(row[0], row[1], row[2], row[3]);
    }
    int calls = 20 + draw(60);
    for (int i = 0; i < calls; i++) {
      String what = "program " + number + ", call " + i;
      int before = x.count(STEPS);
      call(what, x, y);
      if (x.count(STEPS) > before || i == calls - 1) {
        int parked = seen[3];
        if (!isSame(what, everything(x), y.everything())) {
          return;
        }
        note(x, seen);
        seen[11] += parked < seen[3] && x.count(STUCK) == 0 ? 1 : 0;
      }
    }
  }

  private void call(String what, AtomicRuntime x, PlainModel y) {
    int kind = draw(20);
    if (kind == 0) {
      due(what + ": collect()", x.collect(), y.collect());
    } else if (kind < 8) {
      int n = 1 + draw(kind < 4 ? 100 : 8);
      due(what + ": turn(" + n + ")", x.turn(n), y.turn(n));
    } else {
      int thread = draw(y.threads());
      int n = 1 + draw(kind == 8 ? 500 : 12);
      due(what + ": run(" + thread + ", " + n + ")", x.run(thread, n), y.run(thread, n));
    }
  }

  private static boolean isSame(String what, List<Long> got, List<Long> want) {
    if (got.equals(want)) {
      due(what, 0, 0);
      return true;
    }
    int at = 0;
    while (at < got.size() && at < want.size() && got.get(at).equals(want.get(at))) {
      at++;
    }
    due(what + ": at " + at + " of " + want.size(), at < got.size() ? got.get(at) : -1, at < want.size() ? want.get(at) : -2);
    return false;
  }

  private static void note(AtomicRuntime x, int[] seen) {
    seen[0] += x.count(ABORTS) > 0 ? 1 : 0;
    seen[1] += x.count(CLOCK) > 0 ? 1 : 0;
    seen[2] += x.count(COLLECTIONS) > 0 ? 1 : 0;
    for (int t = 0; t < x.count(THREADS); t++) {
      int state = x.thread(t, STATE);
      int fault = x.thread(t, CODE);
      seen[3] += state == IS_PARKED ? 1 : 0;
      seen[4] += state == IS_DONE ? 1 : 0;
      seen[5] += state == IS_FAILED && fault >= 0 ? 1 : 0;
      if (fault < 0) {
        seen[5 - fault]++;
      }
    }
  }

  // The programs: R(0) .. R(3) are VARS, R(4) .. R(8) INTS, R(9) .. R(12) PAIRS, if all goes well.

  private void write() {
    emit(CONST, 8, 1, 0);
    for (int k = 0; k < 4; k++) {
      emit(VAR, k, 4, 0);
    }
    for (int k = 9; k < 13; k++) {
      emit(PAIR, k, draw(9), draw(9));
    }
    int forks = draw(6);
    int[] targets = new int[forks];
    for (int i = 0; i < forks; i++) {
      targets[i] = code.size();
      emit(FORK, draw(2) == 0 ? 4 : 13, 0, 0);
    }
    int loop = code.size();
    block(0, false);
    emit(draw(3) == 0 ? STOP : JUMP, loop, 0, 0);
    for (int target : targets) {
      code.get(target)[2] = code.size();
      loop = code.size();
      block(0, false);
      emit(draw(3) == 0 ? STOP : JUMP, loop, 0, 0);
    }
    for (int[] row : code) {
      if (!careful && draw(40) == 0) {
        row[draw(4)] = draw(40) - 5;
      }
    }
  }

  private int emit(int op, int a, int b, int c) {
    code.add(new int[] {op, a, b, c});
    return code.size() - 1;
  }

  private int var() {
    return draw(4);
  }

  private int number() {
    return 4 + draw(5);
  }

  private int pair() {
    return 9 + draw(4);
  }

  private int any() {
    return draw(13);
  }

  private void block(int depth, boolean inside) {
    int length = 1 + draw(6);
    for (int i = 0; i < length && code.size() < 900; i++) {
      int kind = draw(14);
      if (kind < 7 || depth > 4) {
        simple(inside);
      } else if (kind < 10 && !inside) {
        emit(ATOMIC, 0, 0, 0);
        block(depth + 1, true);
        emit(COMMIT, 0, 0, 0);
      } else if (kind < 11 && inside) {
        alternative(OR, depth, inside);
      } else if (kind < 12) {
        alternative(TRY, depth, inside);
      } else if (kind == 12) {
        called(depth, inside);
      } else {
        branch(depth, inside);
      }
    }
  }

  private void alternative(int op, int depth, boolean inside) {
    int open = emit(op, 0, 0, 0);
    block(depth + 1, inside || op == OR);
    if (draw(3) == 0) {
      leave(inside);
    }
    int end = emit(END, 0, 0, 0);
    code.get(open)[1] = code.size();
    block(depth + 1, inside);
    code.get(end)[1] = code.size();
  }

  private void called(int depth, boolean inside) {
    int call = emit(CALL, code.size() + 2, 0, 0);
    int jump = emit(JUMP, 0, 0, 0);
    block(depth + 1, inside);
    if (draw(12) == 0) {
      emit(CALL, call + 2, 0, 0);
    }
    emit(RET, 0, 0, 0);
    code.get(jump)[1] = code.size();
  }

  private void branch(int depth, boolean inside) {
    int zero = emit(ZERO, number(), 0, 0);
    block(depth + 1, inside);
    if (draw(3) == 0) {
      leave(inside);
    }
    code.get(zero)[2] = code.size();
  }

  private void leave(boolean inside) {
    if (inside && draw(2) == 0) {
      emit(RETRY, 0, 0, 0);
    } else if (careful) {
      emit(CONST, 7, draw(5), 0);
      emit(THROW, 7, 0, 0);
    } else {
      emit(THROW, number(), 0, 0);
    }
  }

  private void simple(boolean inside) {
    switch (draw(inside ? 22 : 18)) {
      case 0: emit(CONST, number(), draw(7) - 3, 0); break;
      case 1: emit(MOVE, number(), number(), 0); break;
      case 2: emit(MOVE, var(), var(), 0); break;
      case 3: emit(MOVE, pair(), pair(), 0); break;
      case 4: emit(ADD, number(), number(), number()); break;
      case 5: emit(SUB, number(), number(), number()); break;
      case 6: emit(MUL, number(), number(), number()); break;
      case 7: emit(LESS, number(), number(), number()); break;
      case 8: emit(SAME, number(), any(), any()); break;
      case 9: case 10: emit(PAIR, pair(), any(), any()); break;
      case 11: emit(VAR, draw(3) == 0 ? var() : 13, any(), 0); break;
      case 12: emit(FIRST, 14, pair(), 0); break;
      case 13: emit(SECOND, 14, pair(), 0); break;
      case 14: emit(SORT, number(), draw(16), 0); break;
      case 15: emit(GET, 14, draw(8), 0); break;
      case 16: emit(inside ? GET : PRINT, inside ? 14 : number(), 4, 0); break;
      case 17: emit(inside ? GET : PUT, inside ? 14 : draw(8), inside ? 3 : draw(16), 0); break;
      case 18: case 19: emit(READ, 14, var(), 0); break;
      default: emit(WRITE, var(), any(), 0); break;
    }
  }
}
