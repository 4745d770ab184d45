/** However letters come and ways change, a run ends as the plain run of as many rounds does. */
public final class LockstepTest {
  private static final int ROUNDS = 9;
  private static final int[] SIZES = {1, 2, 7, 9, 12, 24};

  public static void main(String[] args) {
    for (int shape = 0; shape < 6; shape++) {
      for (int program = 0; program < 6; program++) {
        for (int way = 0; way < 3; way++) {
          for (int rule = 0; rule < 3; rule++) {
            oneWay(shape, program, way, rule);
            changingWays(shape, program, way, rule);
          }
        }
      }
    }
    Due.finish();
  }

  private static LockstepNet made(int shape, int program) {
    LockstepNet x = new LockstepNet();
    int n = joinAll(x, shape);
    for (int node = 0; node < n; node++) {
      int some = node * 37 % 11;
      x.input(node, 0, program == 0 ? (node == 0 ? 1 : 0) : program == 2 ? some % 2 : some);
    }
    if (program < 5) {
      x.builtin(program);
    } else {
      someLetters(x);
    }
    return x;
  }

  private static int joinAll(LockstepNet x, int shape) {
    int n = SIZES[shape];
    x.net(n);
    for (int i = 1; i < n; i++) {
      x.link(shape == 2 ? 0 : shape == 4 ? (i - 1) / 2 : i - 1, i);
    }
    if (shape >= 3) {
      x.link(n - 1, 0);
      for (int i = 0; i + 7 < n; i += 3) {
        x.link(i, i + 7);
      }
    }
    return n;
  }

  /** Only some nodes send in a round, and only by some ports. */
  private static void someLetters(LockstepNet x) {
    int[][] words = {
      {15, 1, 3, 0}, {17, 2, 0, 0}, {2, 0, 0, 2}, {16, 3, 0, 0},
      {19, 4, 0, 0}, {20, 5, 0, 0}, {2, 4, 4, 5}, {0, 5, 3, 0}, {9, 4, 4, 5},
      {15, 1, 3, 0}, {7, 6, 1, 4}, {14, 6, 1, 0}, {18, 0, 0, 0},
      {0, 7, 3, 0}, {4, 0, 0, 7}
    };
    for (int i = 0; i < words.length; i++) {
      x.word(i, words[i][0], words[i][1], words[i][2], words[i][3]);
    }
  }

  private static void comeToRest(LockstepNet x, int rule) {
    for (int i = 0; i < 20 && x.letters() > 0; i++) {
      x.deliverAll(rule, 12345 + i, 2000);
    }
    Due.is("letters at rest", 0, x::letters);
  }

  /** The plain run is that of another object: one alone would be used for more than 512 calls. */
  private static int[][] plain(int shape, int program) {
    LockstepNet x = made(shape, program);
    x.lockstep(ROUNDS);
    int[][] registers = new int[SIZES[shape]][8];
    for (int node = 0; node < registers.length; node++) {
      for (int r = 0; r < 8; r++) {
        registers[node][r] = x.plain(node, r);
      }
    }
    return registers;
  }

  private static void sameAs(int[][] plain, LockstepNet x, String what) {
    for (int i = 0; i < plain.length; i++) {
      int node = i;
      Due.is(what + ": roundOf " + node, ROUNDS, () -> x.roundOf(node));
      for (int j = 0; j < 8; j++) {
        int r = j;
        Due.is(what + ": value " + node + " " + r, plain[node][r], () -> x.value(node, r));
      }
    }
    Due.is(what + ": receipts", x.count(0), () -> x.count(1));
  }

  private static void oneWay(int shape, int program, int way, int rule) {
    String what = "shape " + shape + " program " + program + " way " + way + " rule " + rule;
    for (int p = 2; p <= 8; p += 3) {
      LockstepNet x = made(shape, program);
      x.prepare(way, p);
      x.stopAt(4);
      x.deliverAll(rule, 99, 50);
      x.stopAt(ROUNDS);
      comeToRest(x, rule);
      sameAs(plain(shape, program), x, what);
      Due.is(what + ": others", ROUNDS * x.count(4 + way), () -> x.count(2));
      if (way == 1) {
        Due.same(what + ": widest", true, x.count(3) <= 1);
      }
    }
  }

  private static void changingWays(int shape, int program, int way, int rule) {
    String what = "shape " + shape + " program " + program + " ways from " + way + " rule " + rule;
    LockstepNet x = made(shape, program);
    x.prepare(way, 2);
    x.stopAt(ROUNDS);
    int[] wayOf = new int[ROUNDS];
    java.util.Arrays.fill(wayOf, way);
    for (int i = 1; i <= 8; i++) {
      x.deliverAll(rule, i, 13);
      int next = (way + i) % 3;
      for (int k = x.switchTo(next); k < ROUNDS; k++) {
        wayOf[k] = next;
      }
    }
    comeToRest(x, rule);
    sameAs(plain(shape, program), x, what);
    int others = 0;
    for (int each : wayOf) {
      others += x.count(4 + each);
    }
    Due.is(what + ": others", others, () -> x.count(2));
  }
}
