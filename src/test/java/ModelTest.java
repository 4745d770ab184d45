import java.util.Random;

/** Random runs of calls, wrong ones among them: the class must answer as the Model does. */
public final class ModelTest {
  private static final int RUNS = 1500;
  private static final int CALLS = 500;
  /** Beyond these the document leaves an object's answers free. */
  private static final int MOST_CALLS = 512;

  private final Random random;
  private final int run;
  private final LockstepNet net = new LockstepNet();
  private final Model model = new Model();
  private int calls = 0;

  private ModelTest(int run) {
    this.run = run;
    random = new Random(run);
  }

  public static void main(String[] args) {
    for (int run = 0; run < RUNS && Due.allRight(); run++) {
      new ModelTest(run).go();
    }
    Due.finish();
  }

  private void both(String call, Due.Call want, Due.Call got) {
    if (calls == MOST_CALLS) return;
    calls++;
    Object due = Due.answer(want);
    Due.is("run " + run + ", call " + calls + ": " + call, due, got);
  }

  private int upTo(int most) {
    return random.nextInt(most + 1);
  }

  /** Mostly 0 .. end - 1, sometimes just outside. */
  private int around(int end) {
    if (random.nextInt(25) == 0) return random.nextBoolean() ? -1 : end;
    if (random.nextInt(100) == 0) {
      return random.nextBoolean() ? Integer.MAX_VALUE : Integer.MIN_VALUE;
    }
    return end <= 0 ? 0 : random.nextInt(end);
  }

  private void go() {
    while (calls < CALLS && Due.allRight()) {
      if (!model.on) firstPart();
      else secondPart();
      if (random.nextInt(40) == 0) anyCall();
    }
  }

  private void firstPart() {
    if (random.nextInt(3) > 0 || model.n == 0) makeNet();
    makeProgram();
    for (int i = upTo(8); i > 0; i--) input();
    if (random.nextInt(3) > 0) lockstep();
    for (int i = upTo(3); i > 0; i--) anyCall();
    int way = around(3);
    int p = random.nextInt(20) == 0 ? upTo(12) - 2 : 2 + upTo(6);
    both("prepare " + way + " " + p, () -> model.prepare(way, p), () -> net.prepare(way, p));
    if (model.on) seeAllPlaces();
  }

  private void makeNet() {
    int n = random.nextInt(12) == 0 ? 24 : 1 + upTo(8);
    net(n);
    int shape = random.nextInt(4);
    if (n == 24 && shape == 3) {
      for (int i = 0; i < 70; i++) link(random.nextInt(24), random.nextInt(24));
    }
    for (int i = 1; i < n; i++) {
      if (random.nextInt(80) == 0) continue;
      int to = shape == 0 ? 0 : shape == 1 ? i - 1 : random.nextInt(i);
      if (random.nextBoolean()) link(i, to);
      else link(to, i);
    }
    for (int i = upTo(n); i > 0; i--) link(around(n), around(n));
  }

  private void makeProgram() {
    int choice = random.nextInt(10);
    if (choice < 3) {
      int k = around(5);
      both("builtin " + k, () -> model.builtin(k), () -> net.builtin(k));
      return;
    }
    cutAt(0);
    if (choice < 8) rightProgram();
    else for (int i = upTo(12); i > 0; i--) anyWord(model.program.size());
    both("check", model::check, net::check);
    if (model.check() >= 0 && random.nextInt(4) > 0) cutAt(model.check());
    both("check", model::check, net::check);
    if (model.check() >= 0 && random.nextInt(4) > 0) cutAt(0);
  }

  /** Words with a few EACH and SKIP of lengths that mostly fit. */
  private void rightProgram() {
    for (int parts = 1 + upTo(4); parts > 0; parts--) {
      int at = model.program.size();
      int body = 1 + upTo(4);
      if (random.nextInt(3) == 0) {
        word(at, 14, random.nextInt(8), 1 + upTo(3), 0);
      }
      word(model.program.size(), 15, random.nextInt(8), body, 0);
      for (int i = 0; i < body; i++) {
        int op = random.nextInt(3) > 0 ? 16 + random.nextInt(3) : simpleOp();
        if (random.nextInt(6) == 0 && i + 1 < body) {
          word(model.program.size(), 14, random.nextInt(8), 1 + random.nextInt(body - i - 1), 0);
        } else {
          word(model.program.size(), op, random.nextInt(8), random.nextInt(8), random.nextInt(8));
        }
      }
      for (int i = upTo(5); i > 0; i--) {
        int a = random.nextInt(8);
        word(model.program.size(), simpleOp(), random.nextInt(8), a, random.nextInt(8));
      }
    }
  }

  private int simpleOp() {
    int op = random.nextInt(17);
    return op < 14 ? op : op + 5;
  }

  private void anyWord(int at) {
    int op = random.nextInt(3) == 0 ? 14 + upTo(1) : around(22);
    int r = around(8);
    int a = around(random.nextInt(3) == 0 ? 4 : 8);
    word(at, op, r, a, around(8));
  }

  private void secondPart() {
    int choice = random.nextInt(24);
    if (choice < 4) stopAt();
    else if (choice < 8) deliver();
    else if (choice < 14) deliverAll();
    else if (choice < 16) switchTo();
    else if (choice < 22) look();
    else if (choice == 22) anyCall();
    else if (random.nextInt(3) == 0) {
      finishRun();
    }
  }

  /** All letters come, and all nodes are seen. */
  private void finishRun() {
    for (int i = 0; i < 30 && model.letters() > 0; i++) deliverAll();
    for (int i = 0; i < model.n; i++) {
      int node = i;
      for (int j = 0; j < 8; j++) {
        int r = j;
        both("value " + i + " " + j, () -> model.value(node, r), () -> net.value(node, r));
      }
    }
    for (int i = 0; i < 7; i++) {
      int what = i;
      both("count " + i, () -> model.count(what), () -> net.count(what));
    }
    release();
  }

  private void seeAllPlaces() {
    for (int i = 0; i < model.n; i++) {
      int node = i;
      for (int j = 0; j < 6; j++) {
        int what = j;
        both("place " + i + " " + j, () -> model.place(node, what), () -> net.place(node, what));
      }
    }
    for (int i = 0; i < model.clusters; i++) {
      int c = i;
      int d = random.nextInt(model.clusters);
      both("chosen " + c + " " + d, () -> model.chosen(c, d), () -> net.chosen(c, d));
    }
  }

  private void look() {
    for (int i = upTo(6); i > 0; i--) {
      int at = around(model.letters());
      int what = around(5);
      both("letter " + at + " " + what, () -> model.letter(at, what), () -> net.letter(at, what));
    }
    both("letters", model::letters, net::letters);
    int node = around(model.n);
    int r = around(8);
    both("value " + node + " " + r, () -> model.value(node, r), () -> net.value(node, r));
    both("roundOf " + node, () -> model.roundOf(node), () -> net.roundOf(node));
    int what = around(7);
    both("count " + what, () -> model.count(what), () -> net.count(what));
  }

  /** A call that may be out of its part. */
  private void anyCall() {
    switch (random.nextInt(21)) {
      case 0: net(around(25)); break;
      case 1: link(around(model.n), around(model.n)); break;
      case 2: anyWord(around(model.program.size() + 1)); break;
      case 3:
        int k = around(5);
        both("builtin " + k, () -> model.builtin(k), () -> net.builtin(k));
        break;
      case 4: cutAt(around(model.program.size() + 1)); break;
      case 5: both("check", model::check, net::check); break;
      case 6: input(); break;
      case 7: lockstep(); break;
      case 8: case 9:
        int node = around(model.n);
        int r = around(8);
        both("plain " + node + " " + r, () -> model.plain(node, r), () -> net.plain(node, r));
        break;
      case 10:
        int way = around(3);
        int p = around(9);
        both("prepare " + way + " " + p, () -> model.prepare(way, p), () -> net.prepare(way, p));
        break;
      case 11: if (random.nextInt(4) == 0) release(); break;
      case 12: stopAt(); break;
      case 13: deliver(); break;
      case 14: deliverAll(); break;
      case 15: switchTo(); break;
      case 16:
        int c = around(model.clusters);
        int d = around(model.clusters);
        both("chosen " + c + " " + d, () -> model.chosen(c, d), () -> net.chosen(c, d));
        break;
      case 17:
        int whose = around(model.n);
        int what = around(6);
        both("place " + whose + " " + what,
            () -> model.place(whose, what), () -> net.place(whose, what));
        break;
      case 18: both("letters", model::letters, net::letters); break;
      default: look();
    }
  }

  private void net(int n) {
    both("net " + n,
        () -> { model.net(n); return "done"; },
        () -> { net.net(n); return "done"; });
  }

  private void link(int a, int b) {
    both("link " + a + " " + b, () -> model.link(a, b), () -> net.link(a, b));
  }

  private void word(int i, int op, int r, int a, int b) {
    both("word " + i + " " + op + " " + r + " " + a + " " + b,
        () -> model.word(i, op, r, a, b), () -> net.word(i, op, r, a, b));
  }

  private void cutAt(int n) {
    both("cutAt " + n,
        () -> { model.cutAt(n); return "done"; },
        () -> { net.cutAt(n); return "done"; });
  }

  private void input() {
    int node = around(model.n);
    int r = around(8);
    int v = random.nextBoolean() ? random.nextInt() : upTo(3);
    both("input " + node + " " + r + " " + v,
        () -> { model.input(node, r, v); return "done"; },
        () -> { net.input(node, r, v); return "done"; });
  }

  private void lockstep() {
    int rounds = random.nextInt(20) == 0 ? around(301) : around(8);
    both("lockstep " + rounds,
        () -> { model.lockstep(rounds); return "done"; },
        () -> { net.lockstep(rounds); return "done"; });
    for (int i = 0; i < model.n; i += 3) {
      int node = i;
      int r = random.nextInt(8);
      both("plain " + node + " " + r, () -> model.plain(node, r), () -> net.plain(node, r));
    }
  }

  private void release() {
    both("release",
        () -> { model.release(); return "done"; },
        () -> { net.release(); return "done"; });
  }

  private void stopAt() {
    int round = random.nextInt(12) == 0 ? around(502) : model.stop + upTo(4) - upTo(1);
    both("stopAt " + round,
        () -> { model.stopAt(round); return "done"; },
        () -> { net.stopAt(round); return "done"; });
  }

  private void deliver() {
    int i = around(model.letters());
    both("deliver " + i, () -> model.deliver(i), () -> net.deliver(i));
  }

  private void deliverAll() {
    int rule = around(3);
    int seed = random.nextInt();
    int most = random.nextInt(4) == 0 ? around(2001) : around(40);
    both("deliverAll " + rule + " " + seed + " " + most,
        () -> model.deliverAll(rule, seed, most), () -> net.deliverAll(rule, seed, most));
  }

  private void switchTo() {
    int way = around(3);
    both("switchTo " + way, () -> model.switchTo(way), () -> net.switchTo(way));
  }
}
