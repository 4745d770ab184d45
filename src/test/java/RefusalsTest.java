import java.util.ArrayList;
import java.util.List;
import java.util.function.Consumer;
import java.util.function.Supplier;

/**
 * A refused call throws what the document names first, and changes nothing that later calls show:
 * an object on which it was tried and one on which it was not answer the same from then on.
 */
public final class RefusalsTest {
  private static final int MAX = Nets.MAX;
  private static final int MIN = Nets.MIN;

  /** Collects the answers of a look at an object. */
  private static final class Look {
    final List<String> answers = new ArrayList<>();

    void at(String what, Due.Call call) {
      answers.add(what + " = " + Due.answer(call));
    }
  }

  private interface Tail {
    void go(LockstepNet x, Look look);
  }

  private static final Tail[] TAILS = {
    RefusalsTest::seePlaces, RefusalsTest::seeRegisters, RefusalsTest::goOn,
    RefusalsTest::stopLater, RefusalsTest::changeWays, RefusalsTest::changeProgram,
    RefusalsTest::changeNet, RefusalsTest::runAgain
  };

  private static Supplier<LockstepNet> state;

  public static void main(String[] args) {
    Due.test("a new object", RefusalsTest::newObject);
    Due.test("a net, no run: nodes and registers", RefusalsTest::noRunNodes);
    Due.test("a net, no run: first part", RefusalsTest::noRunFirstPart);
    Due.test("a net, no run: second part", RefusalsTest::noRunSecondPart);
    Due.test("a net in two parts", RefusalsTest::parted);
    Due.test("node 0 apart", RefusalsTest::nodeZeroApart);
    Due.test("a wrong word", RefusalsTest::wrongWord);
    Due.test("a full net and program", RefusalsTest::full);
    Due.test("a full net and program with a run", RefusalsTest::fullWithRun);
    Due.test("a run at its beginning", RefusalsTest::runAtStart);
    Due.test("a run: first part", RefusalsTest::runFirstPart);
    Due.test("a run: letters", RefusalsTest::runLetters);
    Due.test("a run: nodes, clusters, counts", RefusalsTest::runLooks);
    Due.test("a run by tree", () -> runByWay(1));
    Due.test("a run by clusters", () -> runByWay(2));
    Due.test("a run with 8 changes of way", RefusalsTest::allChangesDone);
    Due.test("a run at the greatest STOP", RefusalsTest::greatestStop);
    Due.test("a run is over", RefusalsTest::over);
    Due.finish();
  }

  private static void refused(String what, String due, Consumer<LockstepNet> call) {
    for (Tail tail : TAILS) {
      LockstepNet tried = state.get();
      LockstepNet other = state.get();
      Due.ends(what, due, () -> call.accept(tried));
      Look want = new Look();
      Look got = new Look();
      tail.go(other, want);
      tail.go(tried, got);
      Due.same(what + " changes nothing", want.answers, got.answers);
    }
  }

  // What later calls show. Some are refused themselves, on both objects: that shows the state, too.

  private static int size(LockstepNet x) {
    int n = 0;
    while (n < 24 && Due.answer(plain(x, n, 0)) instanceof Integer) {
      n++;
    }
    return n;
  }

  private static Due.Call plain(LockstepNet x, int node, int r) {
    return () -> x.plain(node, r);
  }

  private static void seePlaces(LockstepNet x, Look look) {
    look.at("check", x::check);
    seeLetters(x, look);
    int n = Math.min(size(x), 6);
    for (int i = 0; i < n; i++) {
      int node = i;
      look.at("roundOf " + node, () -> x.roundOf(node));
      for (int j = 0; j < 6; j++) {
        int what = j;
        look.at("place " + node + " " + what, () -> x.place(node, what));
        look.at("chosen " + node + " " + what, () -> x.chosen(node, what));
      }
    }
    seeCounts(x, look);
  }

  private static void seeLetters(LockstepNet x, Look look) {
    look.at("letters", x::letters);
    int there = Math.min(x.letters(), 12);
    for (int i = 0; i < there; i++) {
      int at = i;
      look.at("letter " + at, () -> Nets.letter(x, at));
    }
  }

  private static void seeCounts(LockstepNet x, Look look) {
    for (int i = 0; i < 7; i++) {
      int what = i;
      look.at("count " + what, () -> x.count(what));
    }
  }

  private static void seeRegisters(LockstepNet x, Look look) {
    int n = Math.min(size(x), 6);
    for (int i = 0; i < n; i++) {
      int node = i;
      for (int j = 0; j < 8; j++) {
        int r = j;
        look.at("value " + node + " " + r, () -> x.value(node, r));
        look.at("plain " + node + " " + r, plain(x, node, r));
      }
    }
  }

  private static void goOn(LockstepNet x, Look look) {
    look.at("deliver 0", () -> x.deliver(0));
    look.at("deliver 1", () -> x.deliver(1));
    seeLetters(x, look);
    look.at("deliverAll", () -> x.deliverAll(2, 77, 9));
    seeLetters(x, look);
    look.at("deliverAll", () -> x.deliverAll(1, 0, 2000));
    seeCounts(x, look);
    seeRegisters(x, look);
  }

  private static void stopLater(LockstepNet x, Look look) {
    for (int i = -1; i < 8; i++) {
      int round = i;
      look.at("stopAt " + round, Due.quiet(() -> x.stopAt(round)));
    }
    seeLetters(x, look);
    look.at("deliverAll", () -> x.deliverAll(2, 7, 2000));
    look.at("deliverAll", () -> x.deliverAll(2, 8, 2000));
    seeCounts(x, look);
    seeRegisters(x, look);
  }

  private static void changeWays(LockstepNet x, Look look) {
    look.at("stopAt 6", Due.quiet(() -> x.stopAt(6)));
    for (int i = 0; i < 9; i++) {
      int way = (i + 1) % 3;
      look.at("switchTo " + way, () -> x.switchTo(way));
      look.at("deliverAll", () -> x.deliverAll(0, 0, 9));
    }
    look.at("deliverAll", () -> x.deliverAll(1, 0, 2000));
    seeCounts(x, look);
  }

  /** Only where there is a run: a refused call here would hide what the tried one has changed. */
  private static void endRun(LockstepNet x) {
    if (Due.answer(() -> x.count(0)) instanceof Integer) {
      x.release();
    }
  }

  private static void changeProgram(LockstepNet x, Look look) {
    endRun(x);
    look.at("check", x::check);
    for (int i = 65; i > 0; i--) {
      int words = i;
      look.at("cutAt " + words, Due.quiet(() -> x.cutAt(words)));
    }
    look.at("check of word 0", x::check);
    look.at("word 1", () -> x.word(1, 2, 0, 0, 0));
    look.at("lockstep", Due.quiet(() -> x.lockstep(2)));
    seeRegisters(x, look);
  }

  private static void changeNet(LockstepNet x, Look look) {
    endRun(x);
    int n = size(x);
    for (int i = 0; i < n; i += 3) {
      int a = i;
      for (int j = 0; j < 6; j++) {
        int b = j;
        look.at("link " + a + " " + b, () -> x.link(a, b));
      }
    }
    look.at("lockstep 3", Due.quiet(() -> x.lockstep(3)));
    look.at("cutAt 0", Due.quiet(() -> x.cutAt(0)));
    look.at("lockstep 0", Due.quiet(() -> x.lockstep(0)));
    seeRegisters(x, look);
  }

  private static void runAgain(LockstepNet x, Look look) {
    endRun(x);
    look.at("lockstep 4", Due.quiet(() -> x.lockstep(4)));
    look.at("prepare", () -> x.prepare(2, 2));
    look.at("stopAt 4", Due.quiet(() -> x.stopAt(4)));
    seeLetters(x, look);
    look.at("deliverAll", () -> x.deliverAll(2, 9, 2000));
    seeCounts(x, look);
    seeRegisters(x, look);
  }

  // The states.

  /** A ring of five with a link across; LEAST; different inputs; a plain run of two rounds. */
  private static LockstepNet ready() {
    LockstepNet x = Nets.ring(5);
    x.link(1, 4);
    x.builtin(1);
    for (int node = 0; node < 5; node++) {
      x.input(node, 0, 50 - node * node);
      x.input(node, 7, node + 1);
    }
    x.lockstep(2);
    return x;
  }

  /** Letters of several kinds are under way, nodes differ in their rounds, a border is to come. */
  private static LockstepNet underWay(int way) {
    LockstepNet x = ready();
    x.prepare(way, 3);
    x.stopAt(3);
    x.deliverAll(2, 5, 14);
    x.switchTo((way + 1) % 3);
    x.deliverAll(1, 0, 5);
    return x;
  }

  private static LockstepNet fullOne() {
    LockstepNet x = Nets.full();
    for (int i = 0; i < 64; i++) {
      x.word(i, i % 9 == 0 ? 20 : 2, i % 8, (i + 1) % 8, (i + 2) % 8);
    }
    return x;
  }

  private static void newObject() {
    state = LockstepNet::new;
    netArguments();
    refused("link", Due.NO_NODE, x -> x.link(0, 1));
    refused("link of the same", Due.NO_NODE, x -> x.link(0, 0));
    refused("word -1", Due.ARGUMENT, x -> x.word(-1, 0, 0, 0, 0));
    refused("word 1", Due.ARGUMENT, x -> x.word(1, 0, 0, 0, 0));
    refused("cutAt -1", Due.ARGUMENT, x -> x.cutAt(-1));
    refused("cutAt 1", Due.ARGUMENT, x -> x.cutAt(1));
    builtinArguments();
    refused("input", Due.NO_NODE, x -> x.input(0, 0, 5));
    refused("input r 8", Due.NO_NODE, x -> x.input(0, 8, 5));
    lockstepArguments();
    refused("plain", Due.NO_NODE, x -> x.plain(0, 0));
    refused("plain r 8", Due.NO_NODE, x -> x.plain(0, 8));
    refused("prepare", Due.STATE, x -> x.prepare(0, 2));
    prepareArguments();
    secondPartWithoutRun();
    refused("roundOf", Due.NO_NODE, x -> x.roundOf(0));
    refused("value", Due.NO_NODE, x -> x.value(0, 0));
    refused("value r 8", Due.NO_NODE, x -> x.value(0, 8));
    refused("place", Due.NO_NODE, x -> x.place(0, 0));
    refused("place what 6", Due.NO_NODE, x -> x.place(0, 6));
  }

  private static void noRunNodes() {
    state = RefusalsTest::ready;
    for (int node : new int[] {MIN, -1, 5, MAX}) {
      nodeArguments(node);
    }
    for (int r : new int[] {MIN, -1, 8, MAX}) {
      refused("input r " + r, Due.INDEX, x -> x.input(4, r, 9));
      refused("plain r " + r, Due.INDEX, x -> x.plain(4, r));
      refused("value r " + r, Due.INDEX, x -> x.value(4, r));
    }
    for (int what : new int[] {MIN, -1, 6, MAX}) {
      refused("place what " + what, Due.INDEX, x -> x.place(4, what));
    }
  }

  /** There is no such node: that is named before all else, whatever else fits. */
  private static void nodeArguments(int node) {
    refused("link from " + node, Due.NO_NODE, x -> x.link(node, 0));
    refused("link to " + node, Due.NO_NODE, x -> x.link(0, node));
    refused("link within " + node, Due.NO_NODE, x -> x.link(node, node));
    refused("input of " + node, Due.NO_NODE, x -> x.input(node, 7, 9));
    refused("input of " + node + ", r 8", Due.NO_NODE, x -> x.input(node, 8, 9));
    refused("plain of " + node, Due.NO_NODE, x -> x.plain(node, 7));
    refused("plain of " + node + ", r 8", Due.NO_NODE, x -> x.plain(node, 8));
    refused("roundOf " + node, Due.NO_NODE, x -> x.roundOf(node));
    refused("value of " + node, Due.NO_NODE, x -> x.value(node, 7));
    refused("value of " + node + ", r 8", Due.NO_NODE, x -> x.value(node, 8));
    refused("place of " + node, Due.NO_NODE, x -> x.place(node, 5));
    refused("place of " + node + ", what 6", Due.NO_NODE, x -> x.place(node, 6));
  }

  private static void netArguments() {
    for (int n : new int[] {MIN, -1, 0, 25, MAX}) {
      refused("net " + n, Due.ARGUMENT, x -> x.net(n));
    }
  }

  private static void builtinArguments() {
    for (int k : new int[] {MIN, -1, 5, MAX}) {
      refused("builtin " + k, Due.ARGUMENT, x -> x.builtin(k));
    }
  }

  private static void lockstepArguments() {
    for (int rounds : new int[] {MIN, -1, 301, MAX}) {
      refused("lockstep " + rounds, Due.ARGUMENT, x -> x.lockstep(rounds));
    }
  }

  private static void prepareArguments() {
    for (int way : new int[] {MIN, -1, 3, MAX}) {
      refused("prepare way " + way, Due.ARGUMENT, x -> x.prepare(way, 2));
    }
    for (int p : new int[] {MIN, -1, 0, 1, 9, MAX}) {
      refused("prepare p " + p, Due.ARGUMENT, x -> x.prepare(0, p));
    }
    refused("prepare way 3, p 9", Due.ARGUMENT, x -> x.prepare(3, 9));
  }

  private static void deliverAllArguments() {
    for (int rule : new int[] {MIN, -1, 3, MAX}) {
      refused("deliverAll rule " + rule, Due.ARGUMENT, x -> x.deliverAll(rule, 1, 5));
    }
    for (int most : new int[] {MIN, -1, 2001, MAX}) {
      refused("deliverAll most " + most, Due.ARGUMENT, x -> x.deliverAll(1, 1, most));
    }
  }

  private static void switchToArguments() {
    for (int way : new int[] {MIN, -1, 3, MAX}) {
      refused("switchTo " + way, Due.ARGUMENT, x -> x.switchTo(way));
    }
  }

  private static void noRunFirstPart() {
    state = RefusalsTest::ready;
    netArguments();
    refused("link of the same", Due.ARGUMENT, x -> x.link(2, 2));
    refused("link that there is", Due.STATE, x -> x.link(0, 1));
    refused("link that there is, turned", Due.STATE, x -> x.link(1, 0));
    for (int i : new int[] {MIN, -1, 8, 64, 65, MAX}) {
      refused("word " + i, Due.ARGUMENT, x -> x.word(i, 0, 0, 0, 0));
      refused("cutAt " + i, Due.ARGUMENT, x -> x.cutAt(i));
    }
    builtinArguments();
    lockstepArguments();
    prepareArguments();
  }

  private static void noRunSecondPart() {
    state = RefusalsTest::ready;
    secondPartWithoutRun();
    refused("roundOf", Due.STATE, x -> x.roundOf(4));
    refused("value", Due.STATE, x -> x.value(4, 7));
    refused("place", Due.STATE, x -> x.place(4, 5));
  }

  private static void secondPartWithoutRun() {
    refused("release", Due.STATE, LockstepNet::release);
    for (int round : new int[] {MIN, -1, 0, 1, 500, 501, MAX}) {
      refused("stopAt " + round, Due.STATE, x -> x.stopAt(round));
    }
    for (int i : new int[] {MIN, -1, 0, 1, MAX}) {
      refused("letter " + i, Due.INDEX, x -> x.letter(i, 0));
      refused("letter " + i + " 5", Due.INDEX, x -> x.letter(i, 5));
      refused("deliver " + i, Due.INDEX, x -> x.deliver(i));
      refused("chosen " + i + " 0", Due.INDEX, x -> x.chosen(i, 0));
      refused("chosen 0 " + i, Due.INDEX, x -> x.chosen(0, i));
    }
    for (int what = -1; what <= 7; what++) {
      int which = what;
      refused("count " + what, Due.INDEX, x -> x.count(which));
    }
    refused("deliverAll", Due.STATE, x -> x.deliverAll(0, 0, 0));
    refused("deliverAll of 2000", Due.STATE, x -> x.deliverAll(2, 1, 2000));
    deliverAllArguments();
    for (int way = 0; way < 3; way++) {
      int which = way;
      refused("switchTo " + way, Due.STATE, x -> x.switchTo(which));
    }
    switchToArguments();
  }

  private static void parted() {
    state = () -> Nets.of(5, new int[][] {{0, 1}, {1, 2}, {3, 4}});
    for (int way = 0; way < 3; way++) {
      int which = way;
      refused("prepare " + way, Due.STATE, x -> x.prepare(which, 2));
    }
    prepareArguments();
  }

  private static void nodeZeroApart() {
    state = () -> Nets.of(4, new int[][] {{3, 1}, {1, 2}, {2, 3}});
    refused("prepare", Due.STATE, x -> x.prepare(0, 2));
    prepareArguments();
  }

  private static void wrongWord() {
    state = () -> {
      LockstepNet x = ready();
      x.word(7, 18, 0, 0, 0);
      return x;
    };
    for (int rounds : new int[] {0, 1, 300}) {
      refused("lockstep " + rounds, Due.STATE, x -> x.lockstep(rounds));
    }
    lockstepArguments();
    refused("prepare", Due.STATE, x -> x.prepare(0, 2));
    prepareArguments();
  }

  private static void full() {
    state = RefusalsTest::fullOne;
    refused("link 61", Due.FULL, x -> x.link(0, 3));
    refused("link that there is", Due.STATE, x -> x.link(0, 2));
    refused("link that there is, turned", Due.STATE, x -> x.link(2, 0));
    refused("link of the same", Due.ARGUMENT, x -> x.link(23, 23));
    refused("link of the same that is none", Due.NO_NODE, x -> x.link(24, 24));
    refused("link to none", Due.NO_NODE, x -> x.link(0, 24));
    refused("link from none", Due.NO_NODE, x -> x.link(-1, 0));
    refused("word 64", Due.FULL, x -> x.word(64, 0, 0, 0, 0));
    refused("word 65", Due.ARGUMENT, x -> x.word(65, 0, 0, 0, 0));
    refused("word -1", Due.ARGUMENT, x -> x.word(-1, 0, 0, 0, 0));
    refused("cutAt 65", Due.ARGUMENT, x -> x.cutAt(65));
    refused("cutAt -1", Due.ARGUMENT, x -> x.cutAt(-1));
  }

  private static void fullWithRun() {
    state = () -> {
      LockstepNet x = fullOne();
      x.prepare(0, 2);
      x.stopAt(2);
      x.deliverAll(2, 3, 40);
      return x;
    };
    refused("link 61", Due.STATE, x -> x.link(0, 3));
    refused("link that there is", Due.STATE, x -> x.link(0, 2));
    refused("link of the same", Due.ARGUMENT, x -> x.link(23, 23));
    refused("link of the same that is none", Due.NO_NODE, x -> x.link(24, 24));
    refused("link to none", Due.NO_NODE, x -> x.link(0, 24));
    refused("word 64", Due.STATE, x -> x.word(64, 0, 0, 0, 0));
    refused("word 63", Due.STATE, x -> x.word(63, 0, 0, 0, 0));
    refused("word 65", Due.ARGUMENT, x -> x.word(65, 0, 0, 0, 0));
  }

  private static void runAtStart() {
    state = () -> {
      LockstepNet x = ready();
      x.prepare(0, 2);
      return x;
    };
    for (int i : new int[] {MIN, -1, 0, 1, MAX}) {
      refused("letter " + i, Due.INDEX, x -> x.letter(i, 0));
      refused("deliver " + i, Due.INDEX, x -> x.deliver(i));
    }
    for (int round : new int[] {MIN, -1, 501, MAX}) {
      refused("stopAt " + round, Due.ARGUMENT, x -> x.stopAt(round));
    }
    refused("prepare", Due.STATE, x -> x.prepare(0, 2));
    deliverAllArguments();
    switchToArguments();
  }

  private static void runFirstPart() {
    state = () -> underWay(0);
    for (int n : new int[] {1, 5, 24}) {
      refused("net " + n, Due.STATE, x -> x.net(n));
    }
    netArguments();
    refused("link", Due.STATE, x -> x.link(0, 2));
    refused("link that there is", Due.STATE, x -> x.link(0, 1));
    refused("link of the same", Due.ARGUMENT, x -> x.link(0, 0));
    for (int i : new int[] {0, 6, 7}) {
      refused("word " + i, Due.STATE, x -> x.word(i, 0, 0, 77, 0));
      refused("cutAt " + i, Due.STATE, x -> x.cutAt(i));
    }
    for (int i : new int[] {-1, 8, 65}) {
      refused("word " + i, Due.ARGUMENT, x -> x.word(i, 0, 0, 77, 0));
      refused("cutAt " + i, Due.ARGUMENT, x -> x.cutAt(i));
    }
    for (int k = 0; k < 5; k++) {
      int which = k;
      refused("builtin " + k, Due.STATE, x -> x.builtin(which));
    }
    builtinArguments();
    refused("input", Due.STATE, x -> x.input(4, 7, 9));
    for (int r : new int[] {-1, 8}) {
      refused("input r " + r, Due.INDEX, x -> x.input(4, r, 9));
      refused("plain r " + r, Due.INDEX, x -> x.plain(4, r));
    }
    for (int node : new int[] {-1, 5}) {
      nodeArguments(node);
    }
    lockstepArguments();
    refused("prepare", Due.STATE, x -> x.prepare(2, 8));
    prepareArguments();
  }

  private static void runLetters() {
    state = () -> underWay(0);
    int there = state.get().letters();
    Due.same("letters are under way", true, there > 1);
    for (int i : new int[] {MIN, -1, there, MAX}) {
      refused("letter " + i, Due.INDEX, x -> x.letter(i, 0));
      refused("letter " + i + " 5", Due.INDEX, x -> x.letter(i, 5));
      refused("deliver " + i, Due.INDEX, x -> x.deliver(i));
    }
    for (int what : new int[] {MIN, -1, 5, MAX}) {
      refused("letter 0 " + what, Due.INDEX, x -> x.letter(0, what));
    }
    deliverAllArguments();
    switchToArguments();
    for (int round : new int[] {MIN, -1, 0, 2, 501, MAX}) {
      refused("stopAt " + round, Due.ARGUMENT, x -> x.stopAt(round));
    }
  }

  private static void runLooks() {
    state = () -> underWay(0);
    for (int bad : new int[] {MIN, -1, 8, MAX}) {
      refused("value r " + bad, Due.INDEX, x -> x.value(0, bad));
      refused("count " + bad, Due.INDEX, x -> x.count(bad));
      refused("place what " + bad, Due.INDEX, x -> x.place(0, bad));
      refused("chosen " + bad + " 0", Due.INDEX, x -> x.chosen(bad, 0));
      refused("chosen 0 " + bad, Due.INDEX, x -> x.chosen(0, bad));
      refused("chosen " + bad + " " + bad, Due.INDEX, x -> x.chosen(bad, bad));
    }
    refused("count 7", Due.INDEX, x -> x.count(7));
    refused("place what 6", Due.INDEX, x -> x.place(0, 6));
  }

  private static void runByWay(int way) {
    state = () -> underWay(way);
    int there = state.get().letters();
    refused("deliver none", Due.INDEX, x -> x.deliver(there));
    refused("deliverAll rule 3", Due.ARGUMENT, x -> x.deliverAll(3, 0, 2000));
    refused("deliverAll most 2001", Due.ARGUMENT, x -> x.deliverAll(0, 0, 2001));
    refused("switchTo 3", Due.ARGUMENT, x -> x.switchTo(3));
    refused("stopAt 2", Due.ARGUMENT, x -> x.stopAt(2));
    refused("stopAt 501", Due.ARGUMENT, x -> x.stopAt(501));
    refused("prepare", Due.STATE, x -> x.prepare(way, 2));
    refused("net", Due.STATE, x -> x.net(5));
    refused("cutAt", Due.STATE, x -> x.cutAt(0));
    refused("input", Due.STATE, x -> x.input(0, 0, 1));
  }

  private static LockstepNet allChanges() {
    LockstepNet x = ready();
    x.prepare(0, 2);
    x.stopAt(9);
    for (int i = 0; i < 8; i++) {
      x.switchTo(i % 3);
      x.deliverAll(0, 0, 6);
    }
    return x;
  }

  private static void allChangesDone() {
    state = RefusalsTest::allChanges;
    for (int way = 0; way < 3; way++) {
      int which = way;
      refused("switchTo " + way, Due.FULL, x -> x.switchTo(which));
    }
    switchToArguments();
  }

  private static void greatestStop() {
    state = () -> {
      LockstepNet x = ready();
      x.prepare(1, 2);
      x.stopAt(500);
      x.deliverAll(0, 0, 30);
      return x;
    };
    for (int round : new int[] {MIN, -1, 0, 499, 501, MAX}) {
      refused("stopAt " + round, Due.ARGUMENT, x -> x.stopAt(round));
    }
  }

  private static void over() {
    state = () -> {
      LockstepNet x = allChanges();
      x.release();
      return x;
    };
    secondPartWithoutRun();
    refused("roundOf", Due.STATE, x -> x.roundOf(4));
    refused("value", Due.STATE, x -> x.value(4, 7));
    refused("place", Due.STATE, x -> x.place(4, 5));
    for (int node : new int[] {MIN, -1, 5, MAX}) {
      nodeArguments(node);
    }
  }
}
