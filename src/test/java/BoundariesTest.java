/**
 * The boundaries that the promises 1 .. 23 name, each from both sides: the last value that is taken
 * and the first that is refused, empty and full, before and behind. What a refused call leaves as
 * it was is seen in RefusalsTest; the boundaries that Terms names in TermsTest.
 */
public final class BoundariesTest {
  private static final int MAX = Nets.MAX;
  private static final int MIN = Nets.MIN;

  public static void main(String[] args) {
    Due.test("1: a new object has no nodes", BoundariesTest::newHasNoNodes);
    Due.test("1: a new object has no words", BoundariesTest::newHasNoWords);
    Due.test("1: a new object has no run", BoundariesTest::newHasNoRun);
    Due.test("1: objects share nothing", BoundariesTest::objectsShareNothing);
    Due.test("2: n is 1 .. 24", BoundariesTest::netSizes);
    Due.test("2: a net is without links", BoundariesTest::netWithoutLinks);
    Due.test("2: all inputs are 0", BoundariesTest::netInputsZero);
    Due.test("2: the program stays", BoundariesTest::netProgramStays);
    Due.test("2: not while a run is prepared", BoundariesTest::netWithRun);
    Due.test("3: both nodes are there", BoundariesTest::linkNodes);
    Due.test("3: two different nodes", BoundariesTest::linkSame);
    Due.test("3: no two links of the same nodes", BoundariesTest::linkTwice);
    Due.test("3: 60 links", BoundariesTest::linkFull);
    Due.test("3: not while a run is prepared", BoundariesTest::linkWithRun);
    Due.test("4: i is 0 .. how many there are", BoundariesTest::wordPlaces);
    Due.test("4: 64 words", BoundariesTest::wordFull);
    Due.test("4: any numbers are taken", BoundariesTest::wordAnyNumbers);
    Due.test("4: not while a run is prepared", BoundariesTest::wordWithRun);
    Due.test("5: k is 0 .. 4", BoundariesTest::builtinNumbers);
    Due.test("5: it takes the place of all words", BoundariesTest::builtinReplaces);
    Due.test("5: the built-in programs are the document's words", BoundariesTest::builtinWords);
    Due.test("5: not while a run is prepared", BoundariesTest::builtinWithRun);
    Due.test("6: n is 0 .. how many words", BoundariesTest::cutSizes);
    Due.test("6: what is cut off is gone", BoundariesTest::cutOff);
    Due.test("6: not while a run is prepared", BoundariesTest::cutWithRun);
    Due.test("7: the first, the last, none", BoundariesTest::checkFirst);
    Due.test("8: nodes and registers", BoundariesTest::inputPlaces);
    Due.test("8: least and greatest values", BoundariesTest::inputValues);
    Due.test("8: not while a run is prepared", BoundariesTest::inputWithRun);
    Due.test("9: 0 .. 300 rounds", BoundariesTest::lockstepRounds);
    Due.test("9: no word is wrong", BoundariesTest::lockstepWrongWord);
    Due.test("9: without a net, with a run", BoundariesTest::lockstepAnywhere);
    Due.test("10: nodes and registers", BoundariesTest::plainPlaces);
    Due.test("10: before any, behind the latest, another net", BoundariesTest::plainWhen);
    Due.test("11: ways 0 .. 2", BoundariesTest::prepareWays);
    Due.test("11: p is 2 .. 8", BoundariesTest::prepareP);
    Due.test("11: all nodes are reached from node 0", BoundariesTest::prepareReached);
    Due.test("11: no word is wrong", BoundariesTest::prepareWrongWord);
    Due.test("11: one run at a time", BoundariesTest::prepareTwice);
    Due.test("11: from one cluster to one for each node", BoundariesTest::prepareClusters);
    Due.test("12: a run is over once", BoundariesTest::releaseOnce);
    Due.test("12: the next run begins anew", BoundariesTest::releaseAnew);
    Due.test("13: STOP is up to 500", BoundariesTest::stopGreatest);
    Due.test("13: STOP is never less than it was", BoundariesTest::stopNeverLess);
    Due.test("13: nodes do what they can, by their numbers", BoundariesTest::stopNodesAct);
    Due.test("14: how many letters", BoundariesTest::lettersMany);
    Due.test("15: which letter", BoundariesTest::letterPlaces);
    Due.test("15: which part", BoundariesTest::letterParts);
    Due.test("16: which letter", BoundariesTest::deliverPlaces);
    Due.test("17: rules 0 .. 2", BoundariesTest::deliverAllRules);
    Due.test("17: most is 0 .. 2000", BoundariesTest::deliverAllMost);
    Due.test("17: until none is left, or most were", BoundariesTest::deliverAllEnds);
    Due.test("17: the seed wraps around", BoundariesTest::deliverAllSeed);
    Due.test("17: not without a run", BoundariesTest::deliverAllNoRun);
    Due.test("18: ways 0 .. 2", BoundariesTest::switchWays);
    Due.test("18: 8 times", BoundariesTest::switchEightTimes);
    Due.test("18: one round above the greatest", BoundariesTest::switchBorder);
    Due.test("18: below the border and from it on", BoundariesTest::switchSides);
    Due.test("18: of two with one border the later one", BoundariesTest::switchSameBorder);
    Due.test("19: nodes, with and without a run", BoundariesTest::roundOfPlaces);
    Due.test("20: nodes and registers, with and without a run", BoundariesTest::valuePlaces);
    Due.test("21: nodes and what, with and without a run", BoundariesTest::placePlaces);
    Due.test("22: clusters that are there", BoundariesTest::chosenPlaces);
    Due.test("22: none between them", BoundariesTest::chosenNone);
    Due.test("23: what is 0 .. 6", BoundariesTest::countWhat);
    Due.test("23: nothing sent, least and greatest nets", BoundariesTest::countLeastAndGreatest);
    Due.test("23: the greatest difference that there has been", BoundariesTest::countDifference);
    Due.test("an object is used for 512 calls", BoundariesTest::lastCall);
    Due.finish();
  }

  // Promise 1

  private static void newHasNoNodes() {
    LockstepNet x = new LockstepNet();
    Due.is("plain", Due.NO_NODE, () -> x.plain(0, 0));
    Due.ends("input", Due.NO_NODE, () -> x.input(0, 0, 1));
    Due.is("link", Due.NO_NODE, () -> x.link(0, 1));
    Due.is("roundOf", Due.NO_NODE, () -> x.roundOf(0));
    Due.is("prepare", Due.STATE, () -> x.prepare(0, 2));
    Due.done("the plain run has nothing to do", () -> x.lockstep(300));
    Due.is("still no node", Due.NO_NODE, () -> x.plain(0, 0));
  }

  private static void newHasNoWords() {
    LockstepNet x = new LockstepNet();
    Due.is("none is wrong", -1, x::check);
    Due.done("none are kept", () -> x.cutAt(0));
    Due.ends("one can't be kept", Due.ARGUMENT, () -> x.cutAt(1));
    Due.is("word 1 is too far", Due.ARGUMENT, () -> x.word(1, 0, 0, 0, 0));
    Due.is("word 0 is the first", 1, () -> x.word(0, 0, 0, 0, 0));
  }

  private static void newHasNoRun() {
    LockstepNet x = new LockstepNet();
    Due.is("letters", 0, x::letters);
    Due.ends("release", Due.STATE, x::release);
    Due.ends("stopAt", Due.STATE, () -> x.stopAt(0));
    Due.is("letter", Due.INDEX, () -> x.letter(0, 0));
    Due.is("deliver", Due.INDEX, () -> x.deliver(0));
    Due.is("deliverAll", Due.STATE, () -> x.deliverAll(0, 0, 0));
    Due.is("switchTo", Due.STATE, () -> x.switchTo(0));
    Due.is("chosen", Due.INDEX, () -> x.chosen(0, 0));
    Due.is("count", Due.INDEX, () -> x.count(0));
  }

  private static void objectsShareNothing() {
    LockstepNet x = Nets.line(3);
    x.builtin(4);
    x.input(0, 0, 5);
    x.prepare(0, 2);
    x.stopAt(1);
    LockstepNet y = new LockstepNet();
    Due.is("no nodes", Due.NO_NODE, () -> y.plain(0, 0));
    Due.ends("no words", Due.ARGUMENT, () -> y.cutAt(1));
    Due.is("no letters", 0, y::letters);
    y.net(3);
    Due.is("no links", 0, () -> y.link(0, 1));
    Due.is("the first one's letters", 4, x::letters);
  }

  // Promise 2

  private static void netSizes() {
    LockstepNet x = new LockstepNet();
    for (int n : new int[] {MIN, -1, 0, 25, MAX}) {
      Due.ends("net " + n, Due.ARGUMENT, () -> x.net(n));
      Due.is("no node yet", Due.NO_NODE, () -> x.plain(0, 0));
    }
    for (int n : new int[] {1, 2, 23, 24, 1}) {
      Due.done("net " + n, () -> x.net(n));
      Due.is("the last node", 0, () -> x.plain(n - 1, 7));
      Due.is("the node behind", Due.NO_NODE, () -> x.plain(n, 7));
    }
  }

  private static void netWithoutLinks() {
    LockstepNet x = Nets.full();
    x.net(24);
    Due.is("not all are reached", Due.STATE, () -> x.prepare(0, 2));
    x.word(0, 21, 0, 0, 0);
    x.lockstep(1);
    for (int i = 0; i < 24; i++) {
      int node = i;
      Due.is("no ports", 0, () -> x.plain(node, 0));
    }
    Due.is("the first link", 0, () -> x.link(0, 1));
    Due.is("the second link", 1, () -> x.link(0, 2));
  }

  private static void netInputsZero() {
    LockstepNet x = new LockstepNet();
    x.net(24);
    for (int node = 0; node < 24; node++) {
      for (int r = 0; r < 8; r++) {
        x.input(node, r, 1 + node * 8 + r);
      }
    }
    x.net(24);
    x.lockstep(0);
    for (int i = 0; i < 24; i++) {
      int node = i;
      for (int j = 0; j < 8; j++) {
        int r = j;
        Due.is("input " + node + " " + r, 0, () -> x.plain(node, r));
      }
    }
  }

  private static void netProgramStays() {
    LockstepNet x = new LockstepNet();
    x.word(0, 20, 3, 0, 0);
    x.word(1, 0, 4, 44, 0);
    x.net(2);
    Due.is("two words, and one more", 3, () -> x.word(2, 0, 5, 55, 0));
    x.lockstep(1);
    Due.is("word 0", 1, () -> x.plain(1, 3));
    x.net(24);
    Due.ends("three words", Due.ARGUMENT, () -> x.cutAt(4));
    x.lockstep(1);
    Due.is("word 0 in another net", 23, () -> x.plain(23, 3));
    Due.is("word 1 in another net", 44, () -> x.plain(23, 4));
    Due.is("word 2 in another net", 55, () -> x.plain(23, 5));
  }

  private static void netWithRun() {
    LockstepNet x = Nets.line(2);
    x.prepare(0, 2);
    Due.ends("net 1 with a run", Due.STATE, () -> x.net(1));
    Due.ends("net 24 with a run", Due.STATE, () -> x.net(24));
    Due.ends("net 0 with a run", Due.ARGUMENT, () -> x.net(0));
    Due.ends("net 25 with a run", Due.ARGUMENT, () -> x.net(25));
    Due.is("both nodes are there still", 0, () -> x.roundOf(1));
    x.release();
    Due.done("net 1 behind it", () -> x.net(1));
    Due.is("one node", Due.NO_NODE, () -> x.plain(1, 0));
  }

  // Promise 3

  private static void linkNodes() {
    LockstepNet x = new LockstepNet();
    x.net(3);
    for (int bad : new int[] {MIN, -1, 3, MAX}) {
      Due.is("from " + bad, Due.NO_NODE, () -> x.link(bad, 0));
      Due.is("to " + bad, Due.NO_NODE, () -> x.link(2, bad));
    }
    Due.is("the first and the last", 0, () -> x.link(0, 2));
    Due.is("the last and another", 1, () -> x.link(2, 1));
    LockstepNet y = new LockstepNet();
    y.net(1);
    Due.is("one node has no other", Due.NO_NODE, () -> y.link(0, 1));
    Due.is("nor itself", Due.ARGUMENT, () -> y.link(0, 0));
  }

  private static void linkSame() {
    LockstepNet x = new LockstepNet();
    x.net(24);
    for (int i = 0; i < 24; i++) {
      int node = i;
      Due.is("of " + node + " with itself", Due.ARGUMENT, () -> x.link(node, node));
    }
    Due.is("of one that is not there with itself", Due.NO_NODE, () -> x.link(24, 24));
    Due.is("of one below with itself", Due.NO_NODE, () -> x.link(-1, -1));
    Due.is("of two that are next to each other", 0, () -> x.link(22, 23));
  }

  private static void linkTwice() {
    LockstepNet x = new LockstepNet();
    x.net(4);
    Due.is("a link", 0, () -> x.link(0, 3));
    Due.is("again", Due.STATE, () -> x.link(0, 3));
    Due.is("turned round", Due.STATE, () -> x.link(3, 0));
    Due.is("with one node in common", 1, () -> x.link(0, 2));
    Due.is("with the other in common", 2, () -> x.link(1, 3));
    Due.is("the first one still", Due.STATE, () -> x.link(3, 0));
    x.net(4);
    Due.is("in another net", 0, () -> x.link(3, 0));
  }

  private static void linkFull() {
    LockstepNet x = new LockstepNet();
    x.net(24);
    int made = 0;
    for (int i = 0; i < 24 && made < 60; i++) {
      for (int j = i + 1; j < 24 && made < 60; j++) {
        int a = i;
        int b = j;
        Due.is("link " + made, made, () -> x.link(b, a));
        made++;
      }
    }
    Due.is("link 60", Due.FULL, () -> x.link(22, 23));
    Due.is("link 60 again", Due.FULL, () -> x.link(23, 22));
    Due.is("there is one", Due.STATE, () -> x.link(0, 1));
    Due.is("the same", Due.ARGUMENT, () -> x.link(23, 23));
    Due.is("no such node", Due.NO_NODE, () -> x.link(23, 24));
    Due.is("the same, none there", Due.NO_NODE, () -> x.link(24, 24));
    x.net(24);
    Due.is("there is room in another net", 0, () -> x.link(22, 23));
  }

  private static void linkWithRun() {
    LockstepNet x = Nets.line(3);
    x.prepare(0, 2);
    Due.is("another one", Due.STATE, () -> x.link(0, 2));
    Due.is("there is one", Due.STATE, () -> x.link(0, 1));
    Due.is("the same", Due.ARGUMENT, () -> x.link(1, 1));
    Due.is("no such node", Due.NO_NODE, () -> x.link(3, 3));
    Due.is("no link was made", 4, () -> x.count(4));
    x.release();
    Due.is("behind the run", 2, () -> x.link(0, 2));
    LockstepNet y = Nets.full();
    y.prepare(0, 2);
    Due.is("full and with a run", Due.STATE, () -> y.link(0, 3));
    Due.is("full and with a run, the same", Due.ARGUMENT, () -> y.link(3, 3));
    Due.is("full and with a run, no such node", Due.NO_NODE, () -> y.link(24, 24));
    y.release();
    Due.is("full", Due.FULL, () -> y.link(0, 3));
  }

  // Promise 4

  private static void wordPlaces() {
    LockstepNet x = new LockstepNet();
    for (int size = 0; size < 5; size++) {
      int n = size;
      for (int bad : new int[] {MIN, -1, n + 1, MAX}) {
        Due.is("word " + bad + " of " + n, Due.ARGUMENT, () -> x.word(bad, 0, 0, 0, 0));
      }
      Due.is("word " + n + " of " + n, n + 1, () -> x.word(n, 0, n, 10 + n, 0));
      Due.is("word 0 again", n + 1, () -> x.word(0, 0, 0, 20 + n, 0));
      Due.is("the last word again", n + 1, () -> x.word(n, 0, n, 30 + n, 0));
    }
    x.net(1);
    x.lockstep(1);
    int[] due = {24, 31, 32, 33, 34};
    for (int i = 0; i < 5; i++) {
      int r = i;
      Due.is("what word " + i + " does", due[i], () -> x.plain(0, r));
    }
  }

  private static void wordFull() {
    LockstepNet x = new LockstepNet();
    for (int i = 0; i < 64; i++) {
      int at = i;
      Due.is("word " + i, i + 1, () -> x.word(at, 0, 0, at, 0));
    }
    Due.is("another one", Due.FULL, () -> x.word(64, 0, 0, 99, 0));
    Due.is("two behind", Due.ARGUMENT, () -> x.word(65, 0, 0, 99, 0));
    Due.is("one below", Due.ARGUMENT, () -> x.word(-1, 0, 0, 99, 0));
    x.net(1);
    x.lockstep(1);
    Due.is("the last one is done", 63, () -> x.plain(0, 0));
    Due.is("in the place of the last", 64, () -> x.word(63, 0, 0, 77, 0));
    Due.is("in the place of the first", 64, () -> x.word(0, 0, 1, 78, 0));
    x.lockstep(1);
    Due.is("the new last one is done", 77, () -> x.plain(0, 0));
    Due.is("the new first one is done", 78, () -> x.plain(0, 1));
    x.cutAt(63);
    Due.is("there is room for one", 64, () -> x.word(63, 0, 0, 5, 0));
    Due.is("and for no other", Due.FULL, () -> x.word(64, 0, 0, 5, 0));
  }

  private static void wordAnyNumbers() {
    LockstepNet x = new LockstepNet();
    Due.is("greatest", 1, () -> x.word(0, MAX, MAX, MAX, MAX));
    Due.is("it is wrong", 0, x::check);
    Due.is("least", 1, () -> x.word(0, MIN, MIN, MIN, MIN));
    Due.is("it is wrong, too", 0, x::check);
    Due.is("a right one", 1, () -> x.word(0, 0, 0, MIN, MAX));
    Due.is("in its place", -1, x::check);
  }

  private static void wordWithRun() {
    LockstepNet x = Nets.line(2);
    x.word(0, 0, 0, 5, 0);
    x.prepare(0, 2);
    Due.is("in its place", Due.STATE, () -> x.word(0, 0, 0, 6, 0));
    Due.is("behind", Due.STATE, () -> x.word(1, 0, 0, 6, 0));
    Due.is("two behind", Due.ARGUMENT, () -> x.word(2, 0, 0, 6, 0));
    Due.is("below", Due.ARGUMENT, () -> x.word(-1, 0, 0, 6, 0));
    x.lockstep(1);
    Due.is("none has changed", 5, () -> x.plain(0, 0));
    x.release();
    Due.is("behind the run", 2, () -> x.word(1, 0, 0, 6, 0));
    for (int i = 2; i < 64; i++) {
      x.word(i, 0, 0, 0, 0);
    }
    x.prepare(0, 2);
    Due.is("full and with a run", Due.STATE, () -> x.word(64, 0, 0, 0, 0));
    Due.is("beyond full and with a run", Due.ARGUMENT, () -> x.word(65, 0, 0, 0, 0));
    x.release();
    Due.is("full", Due.FULL, () -> x.word(64, 0, 0, 0, 0));
  }

  // Promise 5

  private static void builtinNumbers() {
    LockstepNet x = new LockstepNet();
    for (int k : new int[] {MIN, -1, 5, MAX}) {
      Due.is("builtin " + k, Due.ARGUMENT, () -> x.builtin(k));
      Due.ends("no words came", Due.ARGUMENT, () -> x.cutAt(1));
    }
    Due.is("the first", 15, () -> x.builtin(0));
    Due.is("the last", 32, () -> x.builtin(4));
    Due.is("behind the last", Due.ARGUMENT, () -> x.builtin(5));
    Due.ends("32 words", Due.ARGUMENT, () -> x.cutAt(33));
    Due.done("as many", () -> x.cutAt(32));
  }

  private static void builtinReplaces() {
    LockstepNet x = new LockstepNet();
    for (int i = 0; i < 64; i++) {
      x.word(i, 99, 0, 0, 0);
    }
    int[] sizes = {15, 7, 17, 11, 32};
    for (int k = 0; k < 5; k++) {
      int which = k;
      Due.is("builtin " + k, sizes[k], () -> x.builtin(which));
      Due.is("none is wrong", -1, x::check);
      Due.is("beyond the word behind", Due.ARGUMENT, () -> x.word(sizes[which] + 1, 0, 0, 0, 0));
      Due.is("the word behind", sizes[k] + 1, () -> x.word(sizes[which], 99, 0, 0, 0));
      Due.is("is the only wrong one", sizes[k], x::check);
    }
  }

  /** The same registers come from a built-in program and from the document's words for it. */
  private static void builtinWords() {
    for (int k = 0; k < 5; k++) {
      String text = Model.BUILTIN[k];
      String[] words = text.substring(1, text.length() - 1).split("\\) \\(");
      for (int rounds = 1; rounds <= 5; rounds += 2) {
        LockstepNet x = Nets.ring(5);
        LockstepNet y = Nets.ring(5);
        x.builtin(k);
        typeIn(y, words);
        inputsAndRounds(x, k, rounds);
        inputsAndRounds(y, k, rounds);
        for (int i = 0; i < 5 * 8; i++) {
          int at = i;
          Due.is("built-in " + k + ", round " + rounds + ", node and register " + i,
              Due.answer(() -> y.plain(at / 8, at % 8)), () -> x.plain(at / 8, at % 8));
        }
      }
    }
  }

  private static void typeIn(LockstepNet x, String[] words) {
    for (int i = 0; i < words.length; i++) {
      String[] parts = (words[i] + " 0 0 0").split(" ");
      x.word(i, Integer.parseInt(parts[0]), Integer.parseInt(parts[1]), Integer.parseInt(parts[2]),
          Integer.parseInt(parts[3]));
    }
  }

  private static void inputsAndRounds(LockstepNet x, int k, int rounds) {
    for (int node = 0; node < 5; node++) {
      x.input(node, 0, k == 1 ? 9 - node : node == 0 ? 1 : k == 2 ? node % 2 : 0);
    }
    x.lockstep(rounds);
  }

  private static void builtinWithRun() {
    LockstepNet x = Nets.line(2);
    x.prepare(0, 2);
    Due.is("builtin 0", Due.STATE, () -> x.builtin(0));
    Due.is("builtin 4", Due.STATE, () -> x.builtin(4));
    Due.is("builtin 5", Due.ARGUMENT, () -> x.builtin(5));
    Due.is("builtin -1", Due.ARGUMENT, () -> x.builtin(-1));
    x.release();
    Due.ends("no words came", Due.ARGUMENT, () -> x.cutAt(1));
    Due.is("builtin 4 behind the run", 32, () -> x.builtin(4));
  }

  // Promise 6

  private static void cutSizes() {
    LockstepNet x = new LockstepNet();
    Nets.words(x, 0, 0, 1, 0, 0, 1, 2, 0, 0, 2, 3, 0);
    for (int n : new int[] {MIN, -1, 4, MAX}) {
      Due.ends("cutAt " + n, Due.ARGUMENT, () -> x.cutAt(n));
    }
    Due.done("at all", () -> x.cutAt(3));
    Due.ends("there are three still", Due.ARGUMENT, () -> x.cutAt(4));
    Due.done("at one less", () -> x.cutAt(2));
    Due.ends("there are two", Due.ARGUMENT, () -> x.cutAt(3));
    Due.done("at none", () -> x.cutAt(0));
    Due.ends("there are none", Due.ARGUMENT, () -> x.cutAt(1));
    Due.done("at none again", () -> x.cutAt(0));
  }

  private static void cutOff() {
    LockstepNet x = new LockstepNet();
    x.net(1);
    Nets.words(x, 0, 0, 1, 0, 0, 1, 2, 0, 99, 2, 3, 0);
    Due.is("the last is wrong", 2, x::check);
    x.cutAt(2);
    Due.is("it is gone", -1, x::check);
    x.lockstep(1);
    Due.is("word 0 stays", 1, () -> x.plain(0, 0));
    Due.is("word 1 stays", 2, () -> x.plain(0, 1));
    Due.is("word 3 is too far", Due.ARGUMENT, () -> x.word(3, 0, 0, 0, 0));
    Due.is("word 2 is the next", 3, () -> x.word(2, 0, 7, 8, 0));
    Nets.words(x, 15, 0, 2, 0, 16, 0, 0, 0, 16, 0, 0, 0);
    Due.is("an EACH with its words", -1, x::check);
    x.cutAt(2);
    Due.is("an EACH without its last word", 0, x::check);
  }

  private static void cutWithRun() {
    LockstepNet x = Nets.line(2);
    x.word(0, 0, 0, 5, 0);
    x.prepare(0, 2);
    Due.ends("cutAt 0", Due.STATE, () -> x.cutAt(0));
    Due.ends("cutAt 1", Due.STATE, () -> x.cutAt(1));
    Due.ends("cutAt 2", Due.ARGUMENT, () -> x.cutAt(2));
    Due.ends("cutAt -1", Due.ARGUMENT, () -> x.cutAt(-1));
    x.release();
    Due.done("the word is there still", () -> x.cutAt(1));
    Due.done("behind the run", () -> x.cutAt(0));
  }

  // Promise 7; what makes a word wrong stands in TermsTest

  private static void checkFirst() {
    LockstepNet x = new LockstepNet();
    Due.is("no words", -1, x::check);
    for (int i = 0; i < 64; i++) {
      x.word(i, 0, 0, 0, 0);
    }
    Due.is("none of 64", -1, x::check);
    x.word(63, 22, 0, 0, 0);
    Due.is("the last of 64", 63, x::check);
    x.word(30, 22, 0, 0, 0);
    Due.is("the first of two", 30, x::check);
    x.word(0, 22, 0, 0, 0);
    Due.is("the first of all", 0, x::check);
    x.word(0, 0, 0, 0, 0);
    x.net(1);
    Due.is("a net does not matter", 30, x::check);
    x.cutAt(30);
    x.prepare(0, 2);
    Due.is("also with a run", -1, x::check);
  }

  // Promise 8

  private static void inputPlaces() {
    LockstepNet x = new LockstepNet();
    x.net(3);
    for (int bad : new int[] {MIN, -1, 3, MAX}) {
      Due.ends("node " + bad, Due.NO_NODE, () -> x.input(bad, 0, 9));
      Due.ends("node " + bad + ", r 8", Due.NO_NODE, () -> x.input(bad, 8, 9));
    }
    for (int bad : new int[] {MIN, -1, 8, MAX}) {
      Due.ends("r " + bad, Due.INDEX, () -> x.input(0, bad, 9));
      Due.ends("r " + bad + " of the last", Due.INDEX, () -> x.input(2, bad, 9));
    }
    x.lockstep(0);
    for (int i = 0; i < 24; i++) {
      int at = i;
      Due.is("no input came", 0, () -> x.plain(at / 8, at % 8));
    }
    Due.done("the first of the first", () -> x.input(0, 0, 11));
    Due.done("the last of the last", () -> x.input(2, 7, 12));
    Due.done("the last of the first", () -> x.input(0, 7, 13));
    Due.done("the first of the next", () -> x.input(1, 0, 14));
    x.lockstep(0);
    Due.is("the first of the first", 11, () -> x.plain(0, 0));
    Due.is("the last of the last", 12, () -> x.plain(2, 7));
    Due.is("the last of the first", 13, () -> x.plain(0, 7));
    Due.is("the first of the next", 14, () -> x.plain(1, 0));
  }

  private static void inputValues() {
    LockstepNet x = new LockstepNet();
    x.net(1);
    for (int v : new int[] {MIN, MIN + 1, -1, 0, 1, MAX - 1, MAX}) {
      Due.done("input " + v, () -> x.input(0, 3, v));
      x.lockstep(0);
      Due.is("in the plain run", v, () -> x.plain(0, 3));
      x.prepare(0, 2);
      Due.is("in a run", v, () -> x.value(0, 3));
      x.release();
    }
  }

  private static void inputWithRun() {
    LockstepNet x = Nets.line(2);
    x.input(1, 2, 5);
    x.prepare(0, 2);
    Due.ends("with a run", Due.STATE, () -> x.input(1, 2, 6));
    Due.ends("with a run, r 8", Due.INDEX, () -> x.input(1, 8, 6));
    Due.ends("with a run, r -1", Due.INDEX, () -> x.input(1, -1, 6));
    Due.ends("with a run, node 2", Due.NO_NODE, () -> x.input(2, 2, 6));
    Due.ends("with a run, node 2 and r 8", Due.NO_NODE, () -> x.input(2, 8, 6));
    Due.is("not changed for the run", 5, () -> x.value(1, 2));
    x.lockstep(0);
    Due.is("nor for the plain run", 5, () -> x.plain(1, 2));
    x.release();
    Due.done("behind the run", () -> x.input(1, 2, 6));
    x.lockstep(0);
    Due.is("changed", 6, () -> x.plain(1, 2));
  }

  // Promise 9

  private static void lockstepRounds() {
    LockstepNet x = new LockstepNet();
    x.net(1);
    Nets.words(x, 19, 0, 0, 0, 0, 1, 1, 0, 2, 2, 2, 1);
    x.input(0, 2, 1000);
    for (int bad : new int[] {MIN, -1, 301, MAX}) {
      Due.ends("lockstep " + bad, Due.ARGUMENT, () -> x.lockstep(bad));
      Due.is("nothing was done", 0, () -> x.plain(0, 2));
    }
    for (int rounds : new int[] {0, 1, 2, 299, 300}) {
      Due.done("lockstep " + rounds, () -> x.lockstep(rounds));
      Due.is("the last round", rounds, () -> x.plain(0, 0));
      Due.is("as many were done, from the inputs", 1000 + rounds, () -> x.plain(0, 2));
    }
    Due.ends("lockstep 301", Due.ARGUMENT, () -> x.lockstep(301));
    Due.is("the 300 are there still", 1300, () -> x.plain(0, 2));
  }

  private static void lockstepWrongWord() {
    LockstepNet x = new LockstepNet();
    x.net(1);
    x.input(0, 0, 5);
    x.lockstep(0);
    x.input(0, 0, 6);
    x.word(0, 14, 0, 1, 0);
    Due.ends("not even no rounds", Due.STATE, () -> x.lockstep(0));
    Due.ends("300", Due.STATE, () -> x.lockstep(300));
    Due.ends("301", Due.ARGUMENT, () -> x.lockstep(301));
    Due.ends("-1", Due.ARGUMENT, () -> x.lockstep(-1));
    Due.is("the latest one stays", 5, () -> x.plain(0, 0));
    x.word(1, 0, 0, 7, 0);
    Due.done("it is not wrong any more", () -> x.lockstep(1));
    Due.is("a new one", 7, () -> x.plain(0, 0));
    LockstepNet y = new LockstepNet();
    y.word(0, 22, 0, 0, 0);
    Due.ends("without a net", Due.STATE, () -> y.lockstep(1));
    Due.ends("without a net, 301", Due.ARGUMENT, () -> y.lockstep(301));
  }

  private static void lockstepAnywhere() {
    LockstepNet x = new LockstepNet();
    Due.done("no net, no words, no rounds", () -> x.lockstep(0));
    Due.done("no net, no words", () -> x.lockstep(300));
    Due.ends("no net, 301", Due.ARGUMENT, () -> x.lockstep(301));
    x.builtin(1);
    Due.done("no net", () -> x.lockstep(300));
    x.net(2);
    Due.is("it left nothing", 0, () -> x.plain(1, 0));
    x.link(0, 1);
    x.input(0, 0, 4);
    x.input(1, 0, 8);
    x.prepare(0, 2);
    x.stopAt(3);
    x.deliverAll(2, 4, 5);
    int letters = x.letters();
    String first = Nets.letter(x, 0);
    Due.done("in the midst of a run", () -> x.lockstep(2));
    Due.ends("in the midst of a run, 301", Due.ARGUMENT, () -> x.lockstep(301));
    Due.is("the least", 4, () -> x.plain(1, 0));
    Due.is("the run's letters stay", letters, x::letters);
    Due.same("and the first of them", first, Nets.letter(x, 0));
    x.deliverAll(2, 5, 2000);
    Nets.roundsAre(x, 3, 3);
    Due.is("the run comes to the same", 4, () -> x.value(1, 0));
    Due.is("the plain run stays", 4, () -> x.plain(1, 0));
  }

  // Promise 10

  private static void plainPlaces() {
    LockstepNet x = new LockstepNet();
    x.net(2);
    x.input(0, 0, 1);
    x.input(0, 7, 2);
    x.input(1, 0, 3);
    x.input(1, 7, 4);
    x.lockstep(0);
    Due.is("the first of the first", 1, () -> x.plain(0, 0));
    Due.is("the last of the first", 2, () -> x.plain(0, 7));
    Due.is("the first of the last", 3, () -> x.plain(1, 0));
    Due.is("the last of the last", 4, () -> x.plain(1, 7));
    for (int bad : new int[] {MIN, -1, 2, MAX}) {
      Due.is("node " + bad, Due.NO_NODE, () -> x.plain(bad, 0));
      Due.is("node " + bad + ", r 8", Due.NO_NODE, () -> x.plain(bad, 8));
    }
    for (int bad : new int[] {MIN, -1, 8, MAX}) {
      Due.is("r " + bad, Due.INDEX, () -> x.plain(0, bad));
      Due.is("r " + bad + " of the last", Due.INDEX, () -> x.plain(1, bad));
    }
  }

  private static void plainWhen() {
    LockstepNet x = Nets.line(2);
    x.input(1, 0, 5);
    Due.is("before any", 0, () -> x.plain(1, 0));
    x.prepare(0, 2);
    Due.is("with a run, before any", 0, () -> x.plain(1, 0));
    x.release();
    x.lockstep(0);
    Due.is("behind the first", 5, () -> x.plain(1, 0));
    x.input(1, 0, 6);
    Due.is("an input is none", 5, () -> x.plain(1, 0));
    x.lockstep(0);
    Due.is("behind the second", 6, () -> x.plain(1, 0));
    x.prepare(0, 2);
    x.stopAt(2);
    x.deliverAll(0, 0, 2000);
    x.release();
    Due.is("behind a run", 6, () -> x.plain(1, 0));
    Due.ends("a refused net", Due.ARGUMENT, () -> x.net(25));
    Due.is("is none", 6, () -> x.plain(1, 0));
    x.net(2);
    Due.is("another net", 0, () -> x.plain(1, 0));
    x.input(0, 0, 7);
    Due.is("before any of this net", 0, () -> x.plain(0, 0));
    x.lockstep(0);
    Due.is("behind one of this net", 7, () -> x.plain(0, 0));
    Due.is("the other node", 0, () -> x.plain(1, 0));
  }

  // Promise 11

  private static void prepareWays() {
    LockstepNet x = Nets.line(2);
    for (int bad : new int[] {MIN, -1, 3, MAX}) {
      Due.is("way " + bad, Due.ARGUMENT, () -> x.prepare(bad, 2));
      Due.ends("no run came", Due.STATE, x::release);
    }
    int[] firstKind = {2, 3, 3};
    for (int way = 0; way < 3; way++) {
      int which = way;
      Due.is("way " + way, 1, () -> x.prepare(which, 2));
      x.stopAt(1);
      Due.is("what it sends first", firstKind[way], () -> x.letter(0, 0));
      x.release();
    }
  }

  private static void prepareP() {
    LockstepNet x = Nets.line(2);
    for (int bad : new int[] {MIN, -1, 0, 1, 9, MAX}) {
      Due.is("p " + bad, Due.ARGUMENT, () -> x.prepare(0, bad));
      Due.ends("no run came", Due.STATE, x::release);
    }
    for (int p = 2; p <= 8; p++) {
      int which = p;
      Due.is("p " + p, p == 2 ? 1 : 2, () -> x.prepare(0, which));
      x.release();
    }
    Due.is("way 3, p 9", Due.ARGUMENT, () -> x.prepare(3, 9));
  }

  private static void prepareReached() {
    LockstepNet x = new LockstepNet();
    Due.is("no node", Due.STATE, () -> x.prepare(0, 2));
    Due.is("no node, way 3", Due.ARGUMENT, () -> x.prepare(3, 2));
    Due.is("no node, p 1", Due.ARGUMENT, () -> x.prepare(0, 1));
    x.net(1);
    Due.is("one node", 1, () -> x.prepare(0, 2));
    x.release();
    x.net(2);
    Due.is("two, not linked", Due.STATE, () -> x.prepare(0, 2));
    Due.is("two, not linked, p 9", Due.ARGUMENT, () -> x.prepare(0, 9));
    x.link(1, 0);
    Due.is("two, linked", 1, () -> x.prepare(0, 2));
    LockstepNet y = new LockstepNet();
    y.net(24);
    for (int i = 22; i >= 1; i--) {
      y.link(i + 1, i);
    }
    Due.is("all but node 0 hang together", Due.STATE, () -> y.prepare(0, 2));
    y.link(23, 0);
    Due.is("a line that is as long as can be", 24, () -> y.prepare(0, 8));
    Due.is("its end", 23, () -> y.place(1, 1));
    LockstepNet z = Nets.line(23);
    z.net(24);
    for (int i = 1; i < 23; i++) {
      z.link(i - 1, i);
    }
    Due.is("all but the last node", Due.STATE, () -> z.prepare(0, 2));
    z.link(7, 23);
    Due.is("and the last node", 24, () -> z.prepare(1, 8));
  }

  private static void prepareWrongWord() {
    LockstepNet x = Nets.line(2);
    Due.is("no words", 1, () -> x.prepare(0, 2));
    x.release();
    x.word(0, 0, 0, 1, 0);
    x.word(1, 16, 0, 0, 0);
    Due.is("the last is wrong", Due.STATE, () -> x.prepare(0, 2));
    Due.is("the last is wrong, way -1", Due.ARGUMENT, () -> x.prepare(-1, 2));
    Due.is("the last is wrong, p 9", Due.ARGUMENT, () -> x.prepare(0, 9));
    x.cutAt(1);
    Due.is("none is wrong", 1, () -> x.prepare(0, 2));
    x.release();
    x.word(0, 0, 8, 1, 0);
    Due.is("the first is wrong", Due.STATE, () -> x.prepare(0, 2));
    x.cutAt(0);
    Due.is("it is gone", 1, () -> x.prepare(0, 2));
  }

  private static void prepareTwice() {
    LockstepNet x = Nets.line(2);
    x.prepare(0, 2);
    x.stopAt(1);
    Due.is("again", Due.STATE, () -> x.prepare(0, 2));
    Due.is("again by another way", Due.STATE, () -> x.prepare(2, 8));
    Due.is("again, way 3", Due.ARGUMENT, () -> x.prepare(3, 2));
    Due.is("again, p 1", Due.ARGUMENT, () -> x.prepare(0, 1));
    Nets.row(x, "2 0 1 0 0", "2 1 0 0 0");
    x.release();
    Due.is("behind it", 2, () -> x.prepare(2, 8));
  }

  private static void prepareClusters() {
    LockstepNet x = Nets.star(24);
    for (int p = 2; p <= 8; p++) {
      int which = p;
      Due.is("a star for p " + p, 1, () -> x.prepare(0, which));
      x.release();
    }
    LockstepNet y = Nets.line(24);
    Due.is("a line in pairs", 12, () -> y.prepare(0, 2));
    Due.is("the last cluster", 11, () -> y.place(23, 2));
    y.release();
    Due.is("a line of single nodes", 24, () -> y.prepare(0, 3));
    Due.is("the last cluster of all", 23, () -> y.place(23, 2));
    Due.is("the last link", 22, () -> y.chosen(23, 22));
  }

  // Promise 12

  private static void releaseOnce() {
    LockstepNet x = Nets.line(2);
    Due.ends("before any run", Due.STATE, x::release);
    x.prepare(0, 2);
    Due.done("a run", x::release);
    Due.ends("again", Due.STATE, x::release);
    Due.is("letters", 0, x::letters);
    Due.is("the nodes stay", Due.STATE, () -> x.roundOf(1));
    x.prepare(0, 2);
    x.stopAt(1);
    Due.done("a run with letters under way", x::release);
    Due.is("no letters", 0, x::letters);
    Due.ends("again", Due.STATE, x::release);
  }

  private static void releaseAnew() {
    LockstepNet x = Nets.line(3);
    Nets.words(x, Nets.TALK);
    x.input(2, 5, 55);
    x.prepare(0, 2);
    x.stopAt(7);
    x.deliverAll(0, 0, 40);
    for (int i = 0; i < 8; i++) {
      x.switchTo(1);
    }
    x.release();
    x.prepare(0, 2);
    Due.is("no letters", 0, x::letters);
    Nets.roundsAre(x, 0, 0, 0);
    Due.is("registers are inputs", 55, () -> x.value(2, 5));
    Due.is("others too", 0, () -> x.value(2, 1));
    for (int what = 0; what < 4; what++) {
      int which = what;
      Due.is("count " + what, 0, () -> x.count(which));
    }
    Due.done("STOP is 0", () -> x.stopAt(0));
    Due.is("a border from the beginning", 1, () -> x.switchTo(0));
    x.stopAt(2);
    x.deliverAll(1, 0, 2000);
    Nets.roundsAre(x, 2, 2, 2);
    Due.is("all by way 0", 2 * x.count(4), () -> x.count(2));
  }

  // Promise 13

  private static void stopGreatest() {
    LockstepNet x = new LockstepNet();
    x.net(1);
    x.word(0, 19, 0, 0, 0);
    Due.ends("no run", Due.STATE, () -> x.stopAt(1));
    Due.ends("no run, 501", Due.STATE, () -> x.stopAt(501));
    Due.ends("no run, -1", Due.STATE, () -> x.stopAt(-1));
    x.prepare(0, 2);
    for (int bad : new int[] {501, MAX}) {
      Due.ends("stopAt " + bad, Due.ARGUMENT, () -> x.stopAt(bad));
      Nets.roundsAre(x, 0);
    }
    Due.done("499", () -> x.stopAt(499));
    Nets.roundsAre(x, 499);
    Due.done("500", () -> x.stopAt(500));
    Nets.roundsAre(x, 500);
    Due.is("in round 500", 500, () -> x.value(0, 0));
    Due.ends("501", Due.ARGUMENT, () -> x.stopAt(501));
    Nets.roundsAre(x, 500);
    Due.done("500 again", () -> x.stopAt(500));
    Nets.roundsAre(x, 500);
  }

  private static void stopNeverLess() {
    LockstepNet x = new LockstepNet();
    x.net(1);
    x.prepare(0, 2);
    for (int bad : new int[] {MIN, -1}) {
      Due.ends("stopAt " + bad, Due.ARGUMENT, () -> x.stopAt(bad));
    }
    Due.done("0 as it was", () -> x.stopAt(0));
    Nets.roundsAre(x, 0);
    Due.done("1", () -> x.stopAt(1));
    Nets.roundsAre(x, 1);
    Due.ends("0", Due.ARGUMENT, () -> x.stopAt(0));
    Due.done("1 as it was", () -> x.stopAt(1));
    Due.done("7", () -> x.stopAt(7));
    Due.ends("6", Due.ARGUMENT, () -> x.stopAt(6));
    Due.ends("-1", Due.ARGUMENT, () -> x.stopAt(-1));
    Nets.roundsAre(x, 7);
    x.release();
    x.prepare(0, 2);
    Due.done("in a new run it is 0", () -> x.stopAt(1));
    Nets.roundsAre(x, 1);
  }

  private static void stopNodesAct() {
    LockstepNet x = Nets.of(3, new int[][] {{2, 1}, {1, 0}});
    x.prepare(0, 2);
    x.stopAt(0);
    Nets.row(x);
    x.stopAt(1);
    Nets.row(x, "2 0 1 0 0", "2 1 2 0 0", "2 1 0 0 0", "2 2 1 0 0");
    x.stopAt(1);
    Due.is("nothing goes twice", 4, x::letters);
    x.deliverAll(0, 0, 2000);
    Nets.roundsAre(x, 1, 1, 1);
    Due.is("nothing more at STOP", 0, x::letters);
    x.stopAt(2);
    Nets.row(x, "2 0 1 1 0", "2 1 2 1 0", "2 1 0 1 0", "2 2 1 1 0");
  }

  // Promises 14, 15, 16

  private static void lettersMany() {
    LockstepNet x = Nets.line(2);
    Due.is("no run", 0, x::letters);
    x.prepare(0, 2);
    Due.is("none yet", 0, x::letters);
    x.stopAt(1);
    Due.is("two", 2, x::letters);
    x.deliver(0);
    Due.is("one", 1, x::letters);
    x.deliver(0);
    Due.is("none any more", 0, x::letters);
    x.stopAt(2);
    Due.is("two again", 2, x::letters);
    x.release();
    Due.is("no run any more", 0, x::letters);
    LockstepNet y = Nets.full();
    y.prepare(0, 2);
    y.stopAt(1);
    Due.is("over 60 links", 120, y::letters);
  }

  private static void letterPlaces() {
    LockstepNet x = Nets.line(2);
    Due.is("no run", Due.INDEX, () -> x.letter(0, 0));
    x.prepare(0, 2);
    Due.is("none yet", Due.INDEX, () -> x.letter(0, 0));
    x.stopAt(1);
    for (int bad : new int[] {MIN, -1, 2, MAX}) {
      Due.is("letter " + bad, Due.INDEX, () -> x.letter(bad, 0));
    }
    Due.is("the first is from", 0, () -> x.letter(0, 1));
    Due.is("the last is from", 1, () -> x.letter(1, 1));
    x.deliver(0);
    Due.is("the only one is from", 1, () -> x.letter(0, 1));
    Due.is("there is no other", Due.INDEX, () -> x.letter(1, 1));
    x.release();
    Due.is("no run any more", Due.INDEX, () -> x.letter(0, 1));
  }

  private static void letterParts() {
    LockstepNet x = Nets.line(2);
    x.input(1, 0, MIN);
    Nets.words(x, 15, 1, 1, 0, 18, 0, 0, 0);
    x.prepare(0, 2);
    x.stopAt(1);
    x.deliver(0);
    Nets.letterIs(x, 1, "0 1 0 1 " + MIN);
    for (int bad : new int[] {MIN, -1, 5, MAX}) {
      Due.is("part " + bad, Due.INDEX, () -> x.letter(1, bad));
      Due.is("part " + bad + " of none", Due.INDEX, () -> x.letter(2, bad));
    }
  }

  private static void deliverPlaces() {
    LockstepNet x = Nets.line(3);
    Due.is("no run", Due.INDEX, () -> x.deliver(0));
    x.prepare(0, 2);
    Due.is("none yet", Due.INDEX, () -> x.deliver(0));
    x.stopAt(1);
    for (int bad : new int[] {MIN, -1, 4, MAX}) {
      Due.is("deliver " + bad, Due.INDEX, () -> x.deliver(bad));
    }
    Nets.row(x, "2 0 1 0 0", "2 1 0 0 0", "2 1 2 0 0", "2 2 1 0 0");
    Due.is("the last", 2, () -> x.deliver(3));
    Due.is("there is no other behind", Due.INDEX, () -> x.deliver(3));
    Nets.row(x, "2 0 1 0 0", "2 1 0 0 0", "2 1 2 0 0");
    Due.is("the first", 2, () -> x.deliver(0));
    Nets.row(x, "2 1 0 0 0", "2 1 2 0 0");
    x.deliver(1);
    Due.is("the only one", 2, () -> x.deliver(0));
    Due.is("none any more", Due.INDEX, () -> x.deliver(0));
    Nets.roundsAre(x, 1, 1, 1);
    x.stopAt(2);
    x.release();
    Due.is("no run any more", Due.INDEX, () -> x.deliver(0));
  }

  // Promise 17

  private static LockstepNet eightLetters() {
    LockstepNet x = Nets.star(5);
    x.prepare(0, 2);
    x.stopAt(1);
    return x;
  }

  private static void deliverAllRules() {
    LockstepNet x = eightLetters();
    for (int bad : new int[] {MIN, -1, 3, MAX}) {
      Due.is("rule " + bad, Due.ARGUMENT, () -> x.deliverAll(bad, 0, 1));
      Due.is("rule " + bad + ", most 0", Due.ARGUMENT, () -> x.deliverAll(bad, 0, 0));
      Due.is("all are there", 8, x::letters);
    }
    Due.is("rule 0", 1, () -> x.deliverAll(0, 9, 1));
    Nets.letterIs(x, 0, "2 0 2 0 0");
    Due.is("rule 1", 1, () -> x.deliverAll(1, 9, 1));
    Nets.letterIs(x, 5, "2 3 0 0 0");
    // 5 becomes 1222621274; moved right by 16 it is 18655, modulo 6 it is 1.
    Due.is("rule 2", 1, () -> x.deliverAll(2, 5, 1));
    Nets.row(x, "2 0 2 0 0", "2 0 4 0 0", "2 1 0 0 0", "2 2 0 0 0", "2 3 0 0 0");
  }

  private static void deliverAllMost() {
    LockstepNet x = eightLetters();
    for (int bad : new int[] {MIN, -1, 2001, MAX}) {
      Due.is("most " + bad, Due.ARGUMENT, () -> x.deliverAll(0, 0, bad));
      Due.is("all are there", 8, x::letters);
    }
    Due.is("most 0", 0, () -> x.deliverAll(0, 0, 0));
    Due.is("all are there", 8, x::letters);
    Due.is("most 2000", 8, () -> x.deliverAll(0, 0, 2000));
    LockstepNet y = Nets.line(3);
    y.prepare(0, 2);
    y.stopAt(500);
    // 4 letters for each of 500 rounds are 2000 letters.
    Due.is("1999 of 2000", 1999, () -> y.deliverAll(0, 0, 1999));
    Due.is("one is left", 1, y::letters);
    Due.is("the last one", 1, () -> y.deliverAll(0, 0, 2000));
    Nets.roundsAre(y, 500, 500, 500);
    LockstepNet z = Nets.line(3);
    z.prepare(0, 2);
    z.stopAt(500);
    Due.is("2000 of 2000", 2000, () -> z.deliverAll(2, 1, 2000));
    Due.is("none is left", 0, z::letters);
    LockstepNet w = Nets.line(4);
    w.prepare(0, 2);
    w.stopAt(500);
    Due.is("2000 of 3000", 2000, () -> w.deliverAll(0, 0, 2000));
    Due.same("some are left", true, w.letters() > 0);
    Due.is("the other 1000", 1000, () -> w.deliverAll(1, 0, 2000));
  }

  private static void deliverAllEnds() {
    LockstepNet x = eightLetters();
    Due.is("fewer than there are", 7, () -> x.deliverAll(0, 0, 7));
    Due.is("one is left", 1, x::letters);
    Due.is("as many as there are", 1, () -> x.deliverAll(0, 0, 1));
    Due.is("none is left", 0, () -> x.deliverAll(0, 0, 1));
    LockstepNet y = eightLetters();
    Due.is("as many", 8, () -> y.deliverAll(1, 0, 8));
    Due.is("none is left", 0, y::letters);
    LockstepNet z = eightLetters();
    Due.is("more than there are", 8, () -> z.deliverAll(2, 0, 9));
    z.stopAt(2);
    z.deliver(0);
    Due.is("those that are sent on the way, too", 7, () -> z.deliverAll(0, 0, 2000));
  }

  /** The place of the first letter that a seed chooses among eight. */
  private static void deliverAllSeed() {
    int[] seeds = {0, 1, -1, MAX, MIN, MAX - 1, MIN + 1, 1103515245, 12345, -12345};
    for (int seed : seeds) {
      long next = seed * 1103515245L + 12345L;
      long unsigned = next & 0xFFFFFFFFL;
      int at = (int) ((unsigned >> 16) % 8);
      LockstepNet x = eightLetters();
      String[] due = new String[7];
      for (int i = 0; i < 8; i++) {
        if (i != at) {
          due[i < at ? i : i - 1] = Nets.letter(x, i);
        }
      }
      Due.is("seed " + seed, 1, () -> x.deliverAll(2, seed, 1));
      Nets.row(x, due);
    }
    // 3 becomes -984409216; moved right by 16 it is 50515, modulo 8 it is 3. That becomes
    // 465823161; moved right by 16 it is 7107, modulo 7 it is 2.
    LockstepNet y = eightLetters();
    Due.is("two from seed 3", 2, () -> y.deliverAll(2, 3, 2));
    Nets.row(y, "2 0 1 0 0", "2 0 2 0 0", "2 1 0 0 0", "2 2 0 0 0", "2 3 0 0 0", "2 4 0 0 0");
  }

  private static void deliverAllNoRun() {
    LockstepNet x = Nets.line(2);
    Due.is("before a run", Due.STATE, () -> x.deliverAll(0, 0, 1));
    Due.is("before a run, most 0", Due.STATE, () -> x.deliverAll(0, 0, 0));
    Due.is("before a run, most 2001", Due.ARGUMENT, () -> x.deliverAll(0, 0, 2001));
    Due.is("before a run, most -1", Due.ARGUMENT, () -> x.deliverAll(0, 0, -1));
    Due.is("before a run, rule 3", Due.ARGUMENT, () -> x.deliverAll(3, 0, 1));
    Due.is("before a run, rule -1", Due.ARGUMENT, () -> x.deliverAll(-1, 0, 1));
    x.prepare(0, 2);
    Due.is("without letters", 0, () -> x.deliverAll(0, 0, 2000));
    x.stopAt(1);
    x.release();
    Due.is("behind a run", Due.STATE, () -> x.deliverAll(0, 0, 1));
  }

  // Promise 18

  private static void switchWays() {
    LockstepNet x = Nets.line(2);
    Due.is("no run", Due.STATE, () -> x.switchTo(0));
    Due.is("no run, way 3", Due.ARGUMENT, () -> x.switchTo(3));
    Due.is("no run, way -1", Due.ARGUMENT, () -> x.switchTo(-1));
    x.prepare(0, 2);
    for (int bad : new int[] {MIN, -1, 3, MAX}) {
      Due.is("way " + bad, Due.ARGUMENT, () -> x.switchTo(bad));
    }
    for (int way = 0; way < 3; way++) {
      int which = way;
      Due.is("way " + way, 1, () -> x.switchTo(which));
    }
    x.release();
    Due.is("no run any more", Due.STATE, () -> x.switchTo(2));
  }

  private static void switchEightTimes() {
    LockstepNet x = Nets.line(2);
    x.prepare(0, 2);
    for (int i = 1; i <= 8; i++) {
      int way = i % 3;
      Due.is("a refused one does not count", Due.ARGUMENT, () -> x.switchTo(3));
      Due.is("the " + i + ". time", 1, () -> x.switchTo(way));
    }
    Due.is("the 9. time", Due.FULL, () -> x.switchTo(0));
    Due.is("the 9. time, way 2", Due.FULL, () -> x.switchTo(2));
    Due.is("the 9. time, way 3", Due.ARGUMENT, () -> x.switchTo(3));
    Due.is("the 9. time, way -1", Due.ARGUMENT, () -> x.switchTo(-1));
    x.stopAt(2);
    x.deliverAll(0, 0, 2000);
    // Round 0 by way 0, round 1 by the way of the 8. time, 2.
    Due.is("others", x.count(4) + x.count(6), () -> x.count(2));
    x.release();
    Due.is("no run", Due.STATE, () -> x.switchTo(0));
    x.prepare(0, 2);
    Due.is("the next run", 1, () -> x.switchTo(0));
  }

  private static void switchBorder() {
    LockstepNet x = Nets.line(3);
    x.prepare(0, 2);
    Due.is("all in round 0", 1, () -> x.switchTo(0));
    x.stopAt(500);
    Nets.deliver(x, "2 1 2");
    Nets.roundsAre(x, 0, 0, 1);
    Due.is("the last node alone is in round 1", 2, () -> x.switchTo(0));
    x.deliverAll(0, 0, 1);
    x.deliverAll(1, 0, 2000);
    Nets.roundsAre(x, 500, 500, 500);
    Due.is("in the last round that can be", 501, () -> x.switchTo(1));
    LockstepNet y = new LockstepNet();
    y.net(1);
    y.prepare(2, 2);
    y.stopAt(6);
    Due.is("one node in round 6", 7, () -> y.switchTo(0));
  }

  private static void switchSides() {
    LockstepNet x = Nets.line(2);
    x.prepare(0, 2);
    x.stopAt(1);
    x.deliverAll(0, 0, 2000);
    Due.is("both are in round 1", 2, () -> x.switchTo(1));
    x.stopAt(4);
    Nets.row(x, "2 0 1 1 0", "2 1 0 1 0");
    x.deliverAll(0, 0, 2000);
    Nets.roundsAre(x, 4, 4);
    // Rounds 0, 1 by way 0, rounds 2, 3 by way 1.
    Due.is("others", 2 + 2 + 2 + 2, () -> x.count(2));
    LockstepNet y = Nets.line(2);
    y.prepare(0, 2);
    y.switchTo(1);
    y.stopAt(2);
    Nets.row(y, "2 0 1 0 0", "2 1 0 0 0");
    y.deliver(0);
    Nets.row(y, "2 1 0 0 0", "3 1 0 1 0");
  }

  private static void switchSameBorder() {
    LockstepNet x = Nets.line(2);
    x.prepare(0, 2);
    Due.is("to clusters", 1, () -> x.switchTo(2));
    Due.is("to the tree", 1, () -> x.switchTo(1));
    Due.is("to nodes", 1, () -> x.switchTo(0));
    x.stopAt(2);
    x.deliver(0);
    Nets.row(x, "2 1 0 0 0", "2 1 0 1 0");
    LockstepNet y = Nets.line(2);
    y.prepare(0, 2);
    y.switchTo(0);
    y.switchTo(2);
    y.stopAt(1);
    y.deliverAll(0, 0, 2000);
    Due.is("to the tree from round 2 on", 2, () -> y.switchTo(1));
    y.stopAt(2);
    Nets.row(y, "3 1 0 1 0");
    y.deliver(0);
    Nets.row(y, "5 0 1 1 0");
  }

  // Promises 19 .. 23

  private static void roundOfPlaces() {
    LockstepNet x = Nets.line(3);
    for (int bad : new int[] {MIN, -1, 3, MAX}) {
      Due.is("no run, node " + bad, Due.NO_NODE, () -> x.roundOf(bad));
    }
    Due.is("no run", Due.STATE, () -> x.roundOf(0));
    Due.is("no run, the last", Due.STATE, () -> x.roundOf(2));
    x.prepare(0, 2);
    for (int bad : new int[] {MIN, -1, 3, MAX}) {
      Due.is("node " + bad, Due.NO_NODE, () -> x.roundOf(bad));
    }
    Nets.roundsAre(x, 0, 0, 0);
    x.release();
    Due.is("no run any more", Due.STATE, () -> x.roundOf(2));
    Due.is("no run any more, node 3", Due.NO_NODE, () -> x.roundOf(3));
  }

  private static void valuePlaces() {
    LockstepNet x = Nets.line(2);
    x.input(0, 0, 1);
    x.input(0, 7, 2);
    x.input(1, 0, 3);
    x.input(1, 7, 4);
    Due.is("no run", Due.STATE, () -> x.value(1, 7));
    Due.is("no run, r 8", Due.INDEX, () -> x.value(1, 8));
    Due.is("no run, r -1", Due.INDEX, () -> x.value(1, -1));
    Due.is("no run, node 2", Due.NO_NODE, () -> x.value(2, 7));
    Due.is("no run, node 2, r 8", Due.NO_NODE, () -> x.value(2, 8));
    x.prepare(0, 2);
    Due.is("the first of the first", 1, () -> x.value(0, 0));
    Due.is("the last of the first", 2, () -> x.value(0, 7));
    Due.is("the first of the last", 3, () -> x.value(1, 0));
    Due.is("the last of the last", 4, () -> x.value(1, 7));
    for (int bad : new int[] {MIN, -1, 2, MAX}) {
      Due.is("node " + bad, Due.NO_NODE, () -> x.value(bad, 0));
      Due.is("node " + bad + ", r 8", Due.NO_NODE, () -> x.value(bad, 8));
    }
    for (int bad : new int[] {MIN, -1, 8, MAX}) {
      Due.is("r " + bad, Due.INDEX, () -> x.value(0, bad));
    }
    x.release();
    Due.is("no run any more", Due.STATE, () -> x.value(1, 7));
  }

  private static void placePlaces() {
    LockstepNet x = Nets.line(2);
    Due.is("no run", Due.STATE, () -> x.place(1, 5));
    Due.is("no run, what 6", Due.INDEX, () -> x.place(1, 6));
    Due.is("no run, what -1", Due.INDEX, () -> x.place(1, -1));
    Due.is("no run, node 2", Due.NO_NODE, () -> x.place(2, 5));
    Due.is("no run, node 2, what 6", Due.NO_NODE, () -> x.place(2, 6));
    x.prepare(0, 3);
    Nets.placeIs(x, 0, -1, 0, 0, -1, 0, 1);
    Nets.placeIs(x, 1, 0, 1, 1, -1, 0, 1);
    for (int bad : new int[] {MIN, -1, 2, MAX}) {
      Due.is("node " + bad, Due.NO_NODE, () -> x.place(bad, 0));
      Due.is("node " + bad + ", what 6", Due.NO_NODE, () -> x.place(bad, 6));
    }
    for (int bad : new int[] {MIN, -1, 6, MAX}) {
      Due.is("what " + bad, Due.INDEX, () -> x.place(0, bad));
    }
    x.release();
    Due.is("no run any more", Due.STATE, () -> x.place(0, 0));
  }

  private static void chosenPlaces() {
    LockstepNet x = Nets.line(3);
    Due.is("no run", Due.INDEX, () -> x.chosen(0, 0));
    x.prepare(0, 2);
    Due.is("the first and the last", 1, () -> x.chosen(0, 1));
    Due.is("the last and the first", 1, () -> x.chosen(1, 0));
    for (int bad : new int[] {MIN, -1, 2, MAX}) {
      Due.is("from " + bad, Due.INDEX, () -> x.chosen(bad, 0));
      Due.is("to " + bad, Due.INDEX, () -> x.chosen(0, bad));
      Due.is("of " + bad + " with itself", Due.INDEX, () -> x.chosen(bad, bad));
    }
    x.release();
    Due.is("no run any more", Due.INDEX, () -> x.chosen(0, 1));
    x.net(1);
    x.prepare(0, 2);
    Due.is("one cluster with itself", -1, () -> x.chosen(0, 0));
    Due.is("there is no other", Due.INDEX, () -> x.chosen(0, 1));
  }

  private static void chosenNone() {
    LockstepNet x = Nets.line(24);
    x.prepare(0, 8);
    for (int c = 0; c < 24; c++) {
      int at = c;
      Due.is("of " + c + " with itself", -1, () -> x.chosen(at, at));
      if (c > 0) Due.is("with the one before", c - 1, () -> x.chosen(at, at - 1));
      if (c > 1) Due.is("with the one two before", -1, () -> x.chosen(at, at - 2));
    }
    Due.is("the first and the last", -1, () -> x.chosen(0, 23));
    Due.is("behind the last", Due.INDEX, () -> x.chosen(0, 24));
  }

  private static void countWhat() {
    LockstepNet x = Nets.line(2);
    for (int what = 0; what < 7; what++) {
      int which = what;
      Due.is("no run, " + what, Due.INDEX, () -> x.count(which));
    }
    x.prepare(0, 3);
    int[] due = {0, 0, 0, 0, 2, 2, 2};
    for (int what = 0; what < 7; what++) {
      int which = what;
      Due.is("count " + what, due[what], () -> x.count(which));
    }
    for (int bad : new int[] {MIN, -1, 7, MAX}) {
      Due.is("count " + bad, Due.INDEX, () -> x.count(bad));
    }
    x.release();
    Due.is("no run any more", Due.INDEX, () -> x.count(0));
    Due.is("no run any more, links", Due.INDEX, () -> x.count(4));
  }

  private static void countsAre(LockstepNet x, int... want) {
    for (int what = 0; what < 7; what++) {
      int which = what;
      Due.is("count " + what, want[what], () -> x.count(which));
    }
  }

  private static void countLeastAndGreatest() {
    LockstepNet x = new LockstepNet();
    x.net(1);
    Nets.words(x, Nets.TALK);
    x.prepare(0, 2);
    countsAre(x, 0, 0, 0, 0, 0, 0, 0);
    x.stopAt(500);
    countsAre(x, 0, 0, 0, 0, 0, 0, 0);
    LockstepNet y = Nets.full();
    Nets.words(y, Nets.TALK);
    y.prepare(0, 8);
    countsAre(y, 0, 0, 0, 0, 120, 46, 120);
    y.stopAt(2);
    countsAre(y, 0, 0, 120, 0, 120, 46, 120);
    y.deliverAll(0, 0, 2000);
    // Two rounds: letters over 60 links, both ways, as many receipts, and SAFE of rounds 0 and 1.
    Due.is("program's", 240, () -> y.count(0));
    Due.is("receipts", 240, () -> y.count(1));
    Due.is("others", 240, () -> y.count(2));
    LockstepNet z = Nets.star(24);
    z.prepare(2, 2);
    countsAre(z, 0, 0, 0, 0, 46, 46, 92);
  }

  /** Without letters a line's far end may be as many rounds behind as it is links away. */
  private static void countDifference() {
    for (int behind : new int[] {0, 3}) {
      LockstepNet x = Nets.line(4);
      x.prepare(0, 2);
      Due.is("before all", 0, () -> x.count(3));
      x.stopAt(5);
      Due.is("without a letter", 0, () -> x.count(3));
      int most = 0;
      for (int i = 0; i < 60 && deliverElsewhere(x, behind); i++) {
        most = Math.max(most, difference(x));
        Due.is("so far", most, () -> x.count(3));
      }
      Due.same("as many as links", 3, most);
      x.deliverAll(0, 0, 2000);
      Nets.roundsAre(x, 5, 5, 5, 5);
      Due.is("it stays when they are together again", 3, () -> x.count(3));
      x.release();
      x.prepare(1, 2);
      x.stopAt(5);
      Due.is("none in a new run", 0, () -> x.count(3));
      x.deliverAll(2, 3, 2000);
      Due.is("one by the tree", 1, () -> x.count(3));
    }
  }

  private static int difference(LockstepNet x) {
    int least = x.roundOf(0);
    int greatest = least;
    for (int node = 1; node < 4; node++) {
      least = Math.min(least, x.roundOf(node));
      greatest = Math.max(greatest, x.roundOf(node));
    }
    return greatest - least;
  }

  /** Delivers the first letter that is not to a node: whether there is one. */
  private static boolean deliverElsewhere(LockstepNet x, int node) {
    int there = x.letters();
    for (int i = 0; i < there; i++) {
      if (x.letter(i, 2) != node) {
        x.deliver(i);
        return true;
      }
    }
    return false;
  }

  /** The 512th call still answers as it should. */
  private static void lastCall() {
    LockstepNet x = new LockstepNet();
    x.net(24);
    for (int i = 0; i < 60; i++) {
      int a = i % 24;
      int b = (a + 1 + i / 24) % 24;
      x.link(a, b);
    }
    Nets.words(x, Nets.TALK);
    int calls = 1 + 60 + 4;
    while (calls < 510) {
      x.lockstep(calls % 2 == 0 ? 300 : 299);
      calls++;
    }
    Due.done("call 511", () -> x.lockstep(300));
    Due.is("call 512", 300, () -> x.plain(23, 1));
    LockstepNet y = Nets.ring(6);
    Nets.words(y, Nets.TALK);
    y.prepare(0, 2);
    y.stopAt(500);
    // 36 letters for each round: SAFE, the program's, and receipts, over 6 links, both ways.
    for (int call = 14; call <= 511; call++) {
      y.deliverAll(0, 0, 36);
    }
    Due.is("call 512 of a run", 498, () -> y.roundOf(5));
  }
}
