/** The boundaries that the sentences of Terms name, each from both sides. */
public final class TermsTest {
  private static final int MAX = Nets.MAX;
  private static final int MIN = Nets.MIN;

  private static final int SET = 0;
  private static final int ADD = 2;
  private static final int SUB = 3;
  private static final int MUL = 4;
  private static final int LEAST = 5;
  private static final int MOST = 6;
  private static final int LESS = 7;
  private static final int SAME = 8;
  private static final int AND = 9;
  private static final int OR = 10;
  private static final int XOR = 11;
  private static final int BIT = 12;
  private static final int FREE = 13;
  private static final int SKIP = 14;
  private static final int EACH = 15;
  private static final int GOT = 16;
  private static final int TAKE = 17;
  private static final int SEND = 18;
  private static final int ROUND = 19;
  private static final int SELF = 20;
  private static final int PORTS = 21;

  public static void main(String[] args) {
    Due.test("net: ports are links in their order", TermsTest::portsInOrder);
    Due.test("net: from no port to 23", TermsTest::leastAndMostPorts);
    Due.test("words: arithmetic wraps around", TermsTest::wrapAround);
    Due.test("words: comparing does not wrap around", TermsTest::comparing);
    Due.test("words: bits", TermsTest::bits);
    Due.test("words: BIT uses the lowest five bits", TermsTest::bitMoves);
    Due.test("words: FREE is 0 .. 31, or 32", TermsTest::freeBits);
    Due.test("words: r may be a or b", TermsTest::ownRegisters);
    Due.test("words: SKIP when Rr is 0", TermsTest::skipOnZero);
    Due.test("words: SKIP from one word to all", TermsTest::skipHowMany);
    Due.test("words: SKIP within an EACH", TermsTest::skipWithinEach);
    Due.test("words: EACH without ports", TermsTest::eachWithoutPorts);
    Due.test("words: EACH from one word to all", TermsTest::eachHowMany);
    Due.test("words: 64 words for each of 23 ports", TermsTest::greatestEach);
    Due.test("words: ROUND, SELF, PORTS", TermsTest::aboutItself);
    Due.test("letters: GOT and TAKE with and without one", TermsTest::gotAndTake);
    Due.test("letters: each by its own port", TermsTest::ownPorts);
    Due.test("letters: SEND in the place of another", TermsTest::sendAgain);
    Due.test("letters: the value as it is then", TermsTest::valueAsItIsThen);
    Due.test("wrong: op is 0 .. 21", TermsTest::wrongOp);
    Due.test("wrong: r is 0 .. 7", TermsTest::wrongR);
    Due.test("wrong: registers a and b", TermsTest::wrongRegisters);
    Due.test("wrong: numbers that are not used", TermsTest::unusedNumbers);
    Due.test("wrong: a of SKIP and EACH below 1", TermsTest::wrongLength);
    Due.test("wrong: words beyond the program's end", TermsTest::beyondTheEnd);
    Due.test("wrong: words beyond those of the EACH", TermsTest::beyondTheEach);
    Due.test("wrong: a SKIP into the midst of an EACH", TermsTest::intoAnEach);
    Due.test("wrong: an EACH within an EACH", TermsTest::eachWithinEach);
    Due.test("wrong: GOT, TAKE, SEND within none", TermsTest::withinNone);
    Due.test("rounds: round 0 has no letters, and inputs", TermsTest::roundZero);
    Due.test("rounds: just the letters of the round before", TermsTest::roundBefore);
    Due.test("rounds: registers stay from round to round", TermsTest::registersStay);
    Due.test("built-in: nodes without neighbours", TermsTest::builtinsAlone);
    Due.test("run: the row is in the order of sending", TermsTest::rowInOrder);
    Due.test("run: a letter's receipt", TermsTest::receipts);
    Due.test("run: safe with the last receipt", TermsTest::safeWithTheLast);
    Due.test("run: safe at once without letters", TermsTest::safeAtOnce);
    Due.test("run: what is told ahead stays", TermsTest::toldAhead);
    Due.test("run: nothing is told of the run before", TermsTest::toldBefore);
    Due.test("way 0: SAFE of all neighbours", TermsTest::safeOfAll);
    Due.test("way 1: READY of all children", TermsTest::readyOfAll);
    Due.test("way 1: GO before the next round's letters", TermsTest::goFirst);
    Due.test("way 2: READY, CLUSTER, NEIGHBOUR, ALL, GO", TermsTest::clusterLetters);
    Due.test("way 2: one cluster, without chosen links", TermsTest::oneCluster);
    Due.test("way 2: clusters of one node", TermsTest::singleClusters);
    Due.test("STOP: below it and at it", TermsTest::belowAndAtStop);
    Due.test("STOP: receipts go at it", TermsTest::receiptsAtStop);
    Due.test("tree: depth and the least parent", TermsTest::treeParents);
    Due.test("tree: children by their numbers", TermsTest::childrenByNumbers);
    Due.test("clusters: p - 1 times as many, or one less", TermsTest::layerSizes);
    Due.test("clusters: the second layer", TermsTest::secondLayer);
    Due.test("clusters: only nodes that are in none", TermsTest::nodesInNone);
    Due.test("clusters: parents in the layer before", TermsTest::clusterParents);
    Due.test("clusters: the link of the least number", TermsTest::leastLink);
    Due.test("clusters: those of another p, another net", TermsTest::otherClusters);
    Due.test("full: a net of 24 nodes and 60 links", TermsTest::fullNet);
    Due.finish();
  }

  /** A net of one node, after one round of a program. */
  private static LockstepNet alone(int... words) {
    LockstepNet x = new LockstepNet();
    x.net(1);
    Nets.words(x, words);
    x.lockstep(1);
    return x;
  }

  private static void registers(LockstepNet x, int node, int... want) {
    for (int i = 0; i < want.length; i++) {
      int r = i;
      Due.is("register " + r + " of " + node, want[i], () -> x.plain(node, r));
    }
  }

  /** What an op makes of two numbers. */
  private static void comesTo(int op, int a, int b, int want) {
    LockstepNet x = alone(SET, 1, a, 0, SET, 2, b, 0, op, 0, 1, 2);
    Due.is("op " + op + " of " + a + " and " + b, want, () -> x.plain(0, 0));
  }

  // Nets

  private static void portsInOrder() {
    LockstepNet x = Nets.of(4, new int[][] {{3, 0}, {1, 0}, {0, 2}});
    // By port k goes k + 10.
    Nets.words(x, EACH, 0, 3, 0, SET, 1, 10, 0, ADD, 1, 0, 1, SEND, 1, 0, 0,
        EACH, 0, 1, 0, TAKE, 2, 0, 0);
    x.lockstep(2);
    Due.is("port 0 of node 0 goes to node 3", 10, () -> x.plain(3, 2));
    Due.is("port 1 of node 0 goes to node 1", 11, () -> x.plain(1, 2));
    Due.is("port 2 of node 0 goes to node 2", 12, () -> x.plain(2, 2));
  }

  private static void leastAndMostPorts() {
    LockstepNet x = Nets.star(24);
    Nets.words(x, SET, 7, 99, 0, PORTS, 0, 0, 0, SET, 2, 1, 0, EACH, 7, 1, 0, ADD, 1, 1, 2);
    x.lockstep(1);
    registers(x, 0, 23, 23);
    Due.is("the last port of node 0", 22, () -> x.plain(0, 7));
    registers(x, 23, 1, 1);
    Due.is("the last port of node 23", 0, () -> x.plain(23, 7));
    x.net(1);
    x.lockstep(1);
    registers(x, 0, 0, 0);
    Due.is("r stays", 99, () -> x.plain(0, 7));
  }

  // Words

  private static void wrapAround() {
    comesTo(ADD, MAX, 0, MAX);
    comesTo(ADD, MAX, 1, MIN);
    comesTo(ADD, MAX, MAX, -2);
    comesTo(ADD, MIN, -1, MAX);
    comesTo(ADD, MIN, MIN, 0);
    comesTo(ADD, MIN, MAX, -1);
    comesTo(SUB, MIN, 0, MIN);
    comesTo(SUB, MIN, 1, MAX);
    comesTo(SUB, MAX, -1, MIN);
    comesTo(SUB, 0, MIN, MIN);
    comesTo(SUB, -1, MIN, MAX);
    comesTo(SUB, MIN, MAX, 1);
    comesTo(MUL, 46340, 46340, 2147395600);
    comesTo(MUL, 46341, 46341, -2147479015);
    comesTo(MUL, 65536, 65536, 0);
    comesTo(MUL, MAX, 2, -2);
    comesTo(MUL, MAX, MAX, 1);
    comesTo(MUL, MIN, -1, MIN);
    comesTo(MUL, MIN, 2, 0);
    comesTo(MUL, MIN, MIN, 0);
    comesTo(MUL, MIN, 1, MIN);
  }

  private static void comparing() {
    int[] numbers = {MIN, MIN + 1, -1, 0, 1, MAX - 1, MAX};
    for (int i = 0; i < numbers.length; i++) {
      for (int j = 0; j < numbers.length; j++) {
        int a = numbers[i];
        int b = numbers[j];
        comesTo(LESS, a, b, i < j ? 1 : 0);
        comesTo(SAME, a, b, i == j ? 1 : 0);
        comesTo(LEAST, a, b, numbers[Math.min(i, j)]);
        comesTo(MOST, a, b, numbers[Math.max(i, j)]);
      }
    }
  }

  private static void bits() {
    comesTo(AND, MIN, MAX, 0);
    comesTo(AND, -1, MIN, MIN);
    comesTo(AND, -1, 0, 0);
    comesTo(OR, MIN, MAX, -1);
    comesTo(OR, 0, 0, 0);
    comesTo(OR, MIN, 1, MIN + 1);
    comesTo(XOR, MIN, MAX, -1);
    comesTo(XOR, -1, -1, 0);
    comesTo(XOR, MIN, -1, MAX);
  }

  private static void bitMoves() {
    for (int bit = 0; bit < 32; bit++) {
      comesTo(BIT, bit, 0, 1 << bit);
    }
    comesTo(BIT, 32, 0, 1);
    comesTo(BIT, 63, 0, MIN);
    comesTo(BIT, 64, 0, 1);
    comesTo(BIT, -1, 0, MIN);
    comesTo(BIT, -32, 0, 1);
    comesTo(BIT, -31, 0, 2);
    comesTo(BIT, MAX, 0, MIN);
    comesTo(BIT, MIN, 0, 1);
  }

  private static void freeBits() {
    int below = 0;
    for (int bit = 0; bit < 32; bit++) {
      comesTo(FREE, below, 0, bit);
      comesTo(FREE, ~(1 << bit), 0, bit);
      below |= 1 << bit;
    }
    comesTo(FREE, -1, 0, 32);
    comesTo(FREE, MAX, 0, 31);
    comesTo(FREE, MIN, 0, 0);
  }

  private static void ownRegisters() {
    registers(alone(SET, 0, 3, 0, ADD, 0, 0, 0), 0, 6);
    registers(alone(SET, 0, 3, 0, SUB, 0, 0, 0), 0, 0);
    registers(alone(SET, 0, 3, 0, SAME, 0, 0, 0), 0, 1);
    registers(alone(SET, 0, 3, 0, BIT, 0, 0, 0), 0, 8);
    registers(alone(SET, 0, 3, 0, FREE, 0, 0, 0), 0, 2);
    LockstepNet x = alone(SET, 7, 5, 0, 1, 6, 7, 0, MUL, 7, 6, 7);
    Due.is("the last registers", 25, () -> x.plain(0, 7));
  }

  private static void skipOnZero() {
    for (int n : new int[] {MIN, -1, 0, 1, MAX}) {
      registers(alone(SET, 0, n, 0, SKIP, 0, 1, 0, SET, 1, 5, 0, SET, 2, 6, 0), 0,
          n, n == 0 ? 0 : 5, 6);
    }
  }

  private static void skipHowMany() {
    for (int a = 1; a <= 4; a++) {
      registers(alone(SKIP, 7, a, 0, SET, 0, 1, 0, SET, 1, 1, 0, SET, 2, 1, 0, SET, 3, 1, 0), 0,
          0, a < 2 ? 1 : 0, a < 3 ? 1 : 0, a < 4 ? 1 : 0);
    }
    LockstepNet x = new LockstepNet();
    x.net(1);
    x.word(0, SKIP, 7, 63, 0);
    for (int i = 1; i < 64; i++) {
      x.word(i, SET, 0, i, 0);
    }
    x.lockstep(1);
    Due.is("63 words are skipped", 0, () -> x.plain(0, 0));
    x.word(0, SKIP, 7, 62, 0);
    x.lockstep(1);
    Due.is("62 words are skipped", 63, () -> x.plain(0, 0));
    registers(alone(SKIP, 7, 1, 0, SKIP, 7, 2, 0, SET, 0, 1, 0, SET, 1, 1, 0), 0, 1, 1);
  }

  /** For port 0 the last two words of the EACH are not done, for the others they are. */
  private static void skipWithinEach() {
    LockstepNet x = Nets.star(4);
    Nets.words(x, SET, 5, 1, 0, EACH, 0, 4, 0, ADD, 1, 1, 5, SKIP, 0, 2, 0, ADD, 2, 2, 5,
        ADD, 3, 3, 5, ADD, 4, 4, 5);
    x.lockstep(1);
    registers(x, 0, 2, 3, 2, 2, 1);
    registers(x, 1, 0, 1, 0, 0, 1);
    x.word(3, SKIP, 0, 1, 0);
    x.lockstep(1);
    registers(x, 0, 2, 3, 2, 3, 1);
  }

  private static void eachWithoutPorts() {
    LockstepNet x = new LockstepNet();
    x.net(2);
    Nets.words(x, SET, 0, 9, 0, EACH, 0, 2, 0, SET, 1, 1, 0, SEND, 1, 0, 0, SET, 2, 1, 0);
    x.lockstep(2);
    registers(x, 0, 9, 0, 1);
    x.link(0, 1);
    x.lockstep(2);
    registers(x, 0, 0, 1, 1);
    registers(alone(EACH, 0, 1, 0, SET, 1, 1, 0), 0, 0, 0);
  }

  private static void eachHowMany() {
    for (int a = 1; a <= 3; a++) {
      LockstepNet x = Nets.star(3);
      Nets.words(x, EACH, 0, a, 0, ADD, 1, 1, 7, ADD, 2, 2, 7, ADD, 3, 3, 7);
      x.input(0, 7, 1);
      x.lockstep(1);
      registers(x, 0, 1, 2, a > 1 ? 2 : 1, a > 2 ? 2 : 1);
    }
  }

  private static void greatestEach() {
    LockstepNet x = Nets.star(24);
    x.word(0, EACH, 0, 63, 0);
    for (int i = 1; i < 64; i++) {
      x.word(i, ADD, 1, 1, 7);
    }
    x.input(0, 7, 1);
    x.input(23, 7, 1);
    Due.is("check", -1, x::check);
    x.lockstep(1);
    Due.is("23 ports", 23 * 63, () -> x.plain(0, 1));
    Due.is("one port", 63, () -> x.plain(23, 1));
    x.prepare(0, 2);
    x.stopAt(1);
    x.deliverAll(0, 0, 2000);
    Due.is("in a run", 23 * 63, () -> x.value(0, 1));
  }

  private static void aboutItself() {
    LockstepNet x = Nets.star(24);
    Nets.words(x, ROUND, 0, 0, 0, SELF, 1, 0, 0, PORTS, 2, 0, 0);
    x.lockstep(1);
    registers(x, 0, 1, 0, 23);
    registers(x, 23, 1, 23, 1);
    x.lockstep(300);
    registers(x, 23, 300, 23, 1);
    LockstepNet y = alone(ROUND, 0, 0, 0, SELF, 1, 0, 0, PORTS, 2, 0, 0);
    registers(y, 0, 1, 0, 0);
    y.prepare(1, 2);
    y.stopAt(500);
    Due.is("the last round", 500, () -> y.value(0, 0));
  }

  // Letters

  private static void gotAndTake() {
    LockstepNet x = Nets.line(3);
    // Node 0 sends its register 7, node 2 nothing; node 1 looks at both ports.
    Nets.words(x, EACH, 0, 3, 0, GOT, 1, 0, 0, TAKE, 2, 0, 0, ADD, 3, 3, 1,
        SELF, 4, 0, 0, SET, 5, 0, 0, SAME, 4, 4, 5, SKIP, 4, 2, 0, EACH, 6, 1, 0, SEND, 7, 0, 0);
    for (int v : new int[] {MIN, -1, 0, 1, MAX}) {
      x.input(0, 7, v);
      x.lockstep(1);
      registers(x, 1, 1, 0, 0, 0);
      x.lockstep(2);
      // The last port is that of node 2.
      registers(x, 1, 1, 0, 0, 1);
    }
    x.net(2);
    x.link(0, 1);
    for (int v : new int[] {MIN, -1, 0, 1, MAX}) {
      x.input(0, 7, v);
      x.lockstep(1);
      registers(x, 1, 0, 0, 0, 0);
      x.lockstep(2);
      registers(x, 1, 0, 1, v, 1);
    }
    x.lockstep(300);
    Due.is("one letter for each round", 299, () -> x.plain(1, 3));
  }

  /** Node 0 has all ports that there may be; by port k of node i goes 100 * i + k. */
  private static void ownPorts() {
    LockstepNet x = Nets.star(24);
    Nets.words(x, SELF, 1, 0, 0, SET, 2, 100, 0, MUL, 1, 1, 2, SET, 5, 0, 0, SET, 6, 31, 0,
        EACH, 0, 5, 0, TAKE, 3, 0, 0, MUL, 5, 5, 6, ADD, 5, 5, 3, ADD, 4, 1, 0, SEND, 4, 0, 0);
    int sum = 0;
    for (int node = 1; node < 24; node++) {
      sum = sum * 31 + 100 * node;
    }
    int due = sum;
    x.lockstep(2);
    Due.is("what comes to node 0", due, () -> x.plain(0, 5));
    x.prepare(0, 2);
    x.stopAt(2);
    x.deliverAll(2, 6, 2000);
    Due.is("what comes to node 0 in a run", due, () -> x.value(0, 5));
    for (int i = 1; i < 24; i++) {
      int node = i;
      Due.is("what comes to node " + node, node - 1, () -> x.plain(node, 5));
      Due.is("what comes to node " + node + " in a run", node - 1, () -> x.value(node, 5));
    }
  }

  private static void sendAgain() {
    LockstepNet x = Nets.line(2);
    Nets.words(x, EACH, 0, 3, 0, SEND, 1, 0, 0, SEND, 2, 0, 0, TAKE, 3, 0, 0,
        EACH, 0, 1, 0, SEND, 4, 0, 0);
    x.input(0, 1, 11);
    x.input(0, 2, 12);
    x.input(0, 4, 14);
    x.lockstep(2);
    Due.is("the last of three", 14, () -> x.plain(1, 3));
    x.cutAt(4);
    x.lockstep(2);
    Due.is("the last of two", 12, () -> x.plain(1, 3));
    x.prepare(0, 2);
    x.stopAt(1);
    x.deliverAll(0, 0, 2);
    Nets.row(x, "0 1 0 1 0", "0 0 1 1 12");
    Due.is("only two letters", 2, () -> x.count(0));
  }

  private static void valueAsItIsThen() {
    LockstepNet x = Nets.line(2);
    Nets.words(x, EACH, 0, 2, 0, TAKE, 3, 0, 0, SEND, 1, 0, 0, SET, 1, 99, 0);
    x.input(0, 1, 7);
    x.lockstep(2);
    Due.is("before it was changed", 7, () -> x.plain(1, 3));
    x.lockstep(3);
    Due.is("of the next round", 99, () -> x.plain(1, 3));
  }

  // Wrong words

  private static void wrongOp() {
    for (int op : new int[] {MIN, -1, 22, 23, MAX}) {
      Nets.wrongAt("op " + op, 0, op, 0, 0, 0);
      Nets.wrongAt("op " + op + " within an EACH", 1, EACH, 0, 1, 0, op, 0, 0, 0);
      Nets.wrongAt("op " + op + " that is skipped", 1, SKIP, 0, 1, 0, op, 0, 0, 0);
    }
    for (int op = 0; op <= 21; op++) {
      Nets.wrongAt("op " + op, -1, EACH, 0, 2, 0, op == EACH ? SET : op, 0, 1, 0, SET, 0, 0, 0);
    }
    Nets.wrongAt("op 0", -1, SET, 0, 0, 0);
    Nets.wrongAt("op 21", -1, PORTS, 0, 0, 0);
  }

  private static void wrongR() {
    for (int op = 0; op <= 21; op++) {
      for (int r : new int[] {MIN, -1, 0, 7, 8, MAX}) {
        boolean right = r == 0 || r == 7;
        if (op == EACH) {
          Nets.wrongAt("EACH r " + r, right ? -1 : 0, EACH, r, 1, 0, SET, 0, 0, 0);
        } else {
          Nets.wrongAt("op " + op + " r " + r, right ? -1 : 1,
              EACH, 0, 2, 0, op, r, 1, 0, SET, 0, 0, 0);
        }
      }
    }
  }

  private static void wrongRegisters() {
    for (int op = 1; op <= 13; op++) {
      for (int number : new int[] {MIN, -1, 0, 7, 8, MAX}) {
        boolean right = number == 0 || number == 7;
        boolean usesB = op >= ADD && op <= XOR;
        Nets.wrongAt("a of " + op + " is " + number, right ? -1 : 0, op, 0, number, 0);
        Nets.wrongAt("b of " + op + " is " + number, right || !usesB ? -1 : 0, op, 0, 0, number);
      }
    }
  }

  private static void unusedNumbers() {
    for (int number : new int[] {MIN, -1, 8, MAX}) {
      Nets.wrongAt("SET", -1, SET, 0, number, number);
      for (int op = ROUND; op <= PORTS; op++) {
        Nets.wrongAt("op " + op, -1, op, 0, number, number);
      }
      for (int op = GOT; op <= SEND; op++) {
        Nets.wrongAt("op " + op, -1, EACH, 0, 1, number, op, 0, number, number);
      }
      Nets.wrongAt("b of SKIP", -1, SKIP, 0, 1, number, SET, 0, 0, 0);
    }
  }

  private static void wrongLength() {
    for (int op = SKIP; op <= EACH; op++) {
      for (int a : new int[] {MIN, -1, 0}) {
        Nets.wrongAt("op " + op + " a " + a, 0, op, 0, a, 0, SET, 0, 0, 0);
      }
      Nets.wrongAt("op " + op + " a 1", -1, op, 0, 1, 0, SET, 0, 0, 0);
    }
    for (int a : new int[] {MIN, -1, 0}) {
      Nets.wrongAt("SKIP within an EACH, a " + a, 1,
          EACH, 0, 2, 0, SKIP, 0, a, 0, SET, 0, 0, 0);
    }
  }

  private static void beyondTheEnd() {
    for (int op = SKIP; op <= EACH; op++) {
      Nets.wrongAt("op " + op + " as the only word", 0, op, 0, 1, 0);
      Nets.wrongAt("op " + op + " as the last word", 1, SET, 0, 0, 0, op, 0, 1, 0);
      for (int a = 1; a <= 3; a++) {
        Nets.wrongAt("op " + op + " a " + a + " of two", a <= 2 ? -1 : 0,
            op, 0, a, 0, SET, 0, 0, 0, SET, 0, 0, 0);
      }
      for (int a : new int[] {63, 64, MAX - 1, MAX}) {
        Nets.wrongAt("op " + op + " a " + a, 0, op, 0, a, 0, SET, 0, 0, 0);
        Nets.wrongAt("op " + op + " a " + a + " as the last", 1, SET, 0, 0, 0, op, 0, a, 0);
      }
      for (int a : new int[] {62, 63, 64}) {
        LockstepNet x = new LockstepNet();
        x.word(0, op, 0, a, 0);
        for (int i = 1; i < 64; i++) {
          x.word(i, SET, 0, 0, 0);
        }
        Due.is("op " + op + " a " + a + " of 64 words", a <= 63 ? -1 : 0, x::check);
      }
    }
  }

  private static void beyondTheEach() {
    // An EACH of three words with a SKIP as its first, second, third, and two words behind.
    for (int at = 1; at <= 3; at++) {
      for (int a = 1; a <= 3; a++) {
        int[] words = {EACH, 0, 3, 0, SET, 0, 0, 0, SET, 0, 0, 0, SET, 0, 0, 0, SET, 0, 0, 0,
          SET, 0, 0, 0};
        words[at * 4] = SKIP;
        words[at * 4 + 2] = a;
        Nets.wrongAt("SKIP " + a + " as word " + at, at + a <= 3 ? -1 : at, words);
      }
    }
    Nets.wrongAt("greatest a", 1, EACH, 0, 1, 0, SKIP, 0, MAX, 0, SET, 0, 0, 0);
    Nets.wrongAt("behind the EACH it is free", -1, EACH, 0, 1, 0, SET, 0, 0, 0, SKIP, 0, 2, 0,
        SET, 0, 0, 0, SET, 0, 0, 0);
  }

  private static void intoAnEach() {
    // 0 SKIP, 1 SET, 2 EACH of three words 3, 4, 5, 6 SET, 7 EACH of one word 8, 9 SET
    int[] words = {SKIP, 0, 1, 0, SET, 0, 0, 0, EACH, 0, 3, 0, GOT, 0, 0, 0, TAKE, 0, 0, 0,
      SEND, 0, 0, 0, SET, 0, 0, 0, EACH, 0, 1, 0, SEND, 0, 0, 0, SET, 0, 0, 0};
    // It goes on at a + 1: the EACH itself (2), its words (3, 4, 5), behind (6), and so on; a 9 is
    // up to the program's end.
    int[] due = {-1, 0, 0, 0, -1, -1, 0, -1, -1, 0};
    for (int a = 1; a <= 10; a++) {
      words[2] = a;
      Nets.wrongAt("SKIP " + a, due[a - 1], words);
    }
    Nets.wrongAt("not from a word before", 1, SET, 0, 0, 0, SKIP, 0, 1, 0, EACH, 0, 2, 0,
        GOT, 0, 0, 0, GOT, 0, 0, 0);
    Nets.wrongAt("up to the end of an EACH that ends the program", -1, SKIP, 0, 2, 0,
        EACH, 0, 1, 0, SEND, 0, 0, 0);
    Nets.wrongAt("the last word of an EACH that ends the program", 0, SKIP, 0, 2, 0,
        EACH, 0, 2, 0, SEND, 0, 0, 0, SEND, 0, 0, 0);
    Nets.wrongAt("from an EACH to the next", 1, EACH, 0, 1, 0, SKIP, 0, 2, 0, EACH, 0, 1, 0,
        SEND, 0, 0, 0);
  }

  private static void eachWithinEach() {
    Nets.wrongAt("as its first word", 1, EACH, 0, 2, 0, EACH, 1, 1, 0, SET, 0, 0, 0);
    Nets.wrongAt("as its last word", 2, EACH, 0, 2, 0, SET, 0, 0, 0, EACH, 1, 1, 0, SET, 0, 0, 0);
    Nets.wrongAt("behind its last word", -1, EACH, 0, 1, 0, SET, 0, 0, 0, EACH, 1, 1, 0,
        SET, 0, 0, 0);
    Nets.wrongAt("up to its end", 1, EACH, 0, 3, 0, EACH, 1, 2, 0, SET, 0, 0, 0, SET, 0, 0, 0);
    Nets.wrongAt("and beyond", 1, EACH, 0, 2, 0, EACH, 1, 2, 0, SET, 0, 0, 0, SET, 0, 0, 0);
  }

  private static void withinNone() {
    for (int op = GOT; op <= SEND; op++) {
      Nets.wrongAt(op + " alone", 0, op, 0, 0, 0);
      Nets.wrongAt(op + " before an EACH", 0, op, 0, 0, 0, EACH, 0, 1, 0, SET, 0, 0, 0);
      Nets.wrongAt(op + " as the first word", -1, EACH, 0, 2, 0, op, 0, 0, 0, SET, 0, 0, 0);
      Nets.wrongAt(op + " as the last word", -1, EACH, 0, 2, 0, SET, 0, 0, 0, op, 0, 0, 0);
      Nets.wrongAt(op + " behind the last word", 2, EACH, 0, 1, 0, SET, 0, 0, 0, op, 0, 0, 0);
      Nets.wrongAt(op + " that a SKIP skips", 1, SKIP, 0, 1, 0, op, 0, 0, 0);
    }
  }

  // Rounds

  private static void roundZero() {
    LockstepNet x = Nets.line(2);
    Nets.words(x, SET, 0, 9, 0, EACH, 1, 1, 0, SEND, 0, 0, 0);
    x.input(1, 0, 5);
    x.lockstep(0);
    Due.is("no word is done", 5, () -> x.plain(1, 0));
    for (int way = 0; way < 3; way++) {
      x.prepare(way, 2);
      Nets.roundsAre(x, 0, 0);
      Due.is("no word is done in a run", 5, () -> x.value(1, 0));
      Due.is("no letters", 0, x::letters);
      Due.is("nor were there any", 0, () -> x.count(0));
      x.release();
    }
  }

  private static void roundBefore() {
    LockstepNet x = Nets.line(2);
    // Only in round 1 a letter goes; register 4 counts those that came, 5 tells the round.
    Nets.words(x, EACH, 0, 4, 0, GOT, 1, 0, 0, SKIP, 1, 2, 0, ADD, 4, 4, 1, ROUND, 5, 0, 0,
        ROUND, 2, 0, 0, SET, 3, 1, 0, SAME, 2, 2, 3, SKIP, 2, 2, 0, EACH, 0, 1, 0, SEND, 7, 0, 0);
    int[] came = {0, 0, 1, 1, 1};
    int[] round = {0, 0, 2, 2, 2};
    for (int k = 0; k < 5; k++) {
      int rounds = k;
      x.lockstep(rounds);
      Due.is("letters up to round " + k, came[k], () -> x.plain(1, 4));
      Due.is("the latest in round", round[k], () -> x.plain(1, 5));
      for (int way = 0; way < 3; way++) {
        x.prepare(way, 2);
        x.stopAt(rounds);
        x.deliverAll(1, 0, 2000);
        Due.is("letters up to round " + k + " by way " + way, came[k], () -> x.value(1, 4));
        Due.is("the latest in round", round[k], () -> x.value(1, 5));
        x.release();
      }
    }
  }

  private static void registersStay() {
    LockstepNet x = new LockstepNet();
    x.net(1);
    Nets.words(x, ADD, 0, 0, 1, ADD, 1, 1, 1);
    x.input(0, 1, 1);
    x.lockstep(31);
    Due.is("2^31 - 1", MAX, () -> x.plain(0, 0));
    Due.is("2^31 wraps around", MIN, () -> x.plain(0, 1));
    x.lockstep(32);
    Due.is("2^32 - 1 wraps around", -1, () -> x.plain(0, 0));
    Due.is("2^32 wraps around", 0, () -> x.plain(0, 1));
    x.prepare(2, 2);
    x.stopAt(31);
    Due.is("in a run", MAX, () -> x.value(0, 0));
    x.stopAt(32);
    Due.is("one round later", -1, () -> x.value(0, 0));
  }

  private static void builtinsAlone() {
    // COLOURS: in round 2 a node without greater neighbours takes colour 1.
    int[][] due = {{2, 0}, {1, 0}, {0, 0}, {0, 0}, {1, 1}};
    for (int k = 0; k < 5; k++) {
      LockstepNet x = new LockstepNet();
      x.net(1);
      x.builtin(k);
      x.input(0, 0, 1);
      x.lockstep(3);
      registers(x, 0, due[k]);
    }
  }

  // Runs

  private static void rowInOrder() {
    LockstepNet x = Nets.line(3);
    Nets.words(x, Nets.TALK);
    x.prepare(0, 2);
    x.stopAt(2);
    Nets.row(x, "2 0 1 0 0", "2 1 0 0 0", "2 1 2 0 0", "2 2 1 0 0");
    x.deliver(2);
    Nets.row(x, "2 0 1 0 0", "2 1 0 0 0", "2 2 1 0 0", "0 2 1 1 1");
    x.deliver(3);
    Nets.row(x, "2 0 1 0 0", "2 1 0 0 0", "2 2 1 0 0", "1 1 2 1 0");
    x.deliver(0);
    Nets.row(x, "2 1 0 0 0", "2 2 1 0 0", "1 1 2 1 0");
    x.deliver(1);
    Nets.row(x, "2 1 0 0 0", "1 1 2 1 0", "0 1 0 1 1", "0 1 2 1 1");
  }

  private static void receipts() {
    LockstepNet x = Nets.line(2);
    x.input(1, 0, MAX);
    Nets.words(x, EACH, 1, 1, 0, SEND, 0, 0, 0);
    x.prepare(1, 2);
    x.stopAt(1);
    x.deliverAll(0, 0, 2);
    Nets.row(x, "0 0 1 1 0", "0 1 0 1 " + MAX);
    Due.is("a program's letter", 0, () -> x.deliver(1));
    Nets.row(x, "0 0 1 1 0", "1 0 1 1 0");
    Due.is("a receipt", 1, () -> x.deliver(1));
    Nets.row(x, "0 0 1 1 0");
    Due.is("receipts", 1, () -> x.count(1));
  }

  private static void safeWithTheLast() {
    for (int way = 0; way < 3; way++) {
      LockstepNet x = Nets.star(3);
      Nets.words(x, Nets.TALK);
      x.prepare(way, 2);
      x.stopAt(1);
      x.deliverAll(0, 0, 2000);
      Nets.roundsAre(x, 1, 1, 1);
      x.release();
      x.prepare(way, 2);
      x.stopAt(2);
      int others = x.count(4 + way);
      // All of round 0 but no receipts of node 0's two letters.
      for (int i = 0; i < 40 && deliverBut(x, 1, 0); i++) {
        Due.same("node 0 is not safe", true, x.roundOf(0) <= 1);
      }
      Nets.roundsAre(x, 1, 1, 1);
      int before = x.count(2);
      Nets.deliver(x, "1 1 0");
      Due.is("one receipt of two", before, () -> x.count(2));
      Nets.deliver(x, "1 2 0");
      Due.same("the last receipt", true, x.count(2) > before);
      Due.same("not more than for two rounds", true, x.count(2) <= 2 * others);
      x.deliverAll(0, 0, 2000);
      Nets.roundsAre(x, 2, 2, 2);
    }
  }

  /** Delivers the first letter that is not of a kind to a node: whether there is one. */
  private static boolean deliverBut(LockstepNet x, int kind, int to) {
    int there = x.letters();
    for (int i = 0; i < there; i++) {
      if (x.letter(i, 0) != kind || x.letter(i, 2) != to) {
        x.deliver(i);
        return true;
      }
    }
    return false;
  }

  private static void safeAtOnce() {
    LockstepNet x = Nets.line(2);
    x.prepare(0, 2);
    x.stopAt(2);
    x.deliver(0);
    Nets.row(x, "2 1 0 0 0", "2 1 0 1 0");
    LockstepNet y = Nets.line(2);
    Nets.words(y, Nets.TALK);
    y.prepare(0, 2);
    y.stopAt(2);
    y.deliver(0);
    Nets.row(y, "2 1 0 0 0", "0 1 0 1 1");
  }

  private static void toldAhead() {
    LockstepNet x = Nets.line(3);
    x.prepare(0, 2);
    x.stopAt(3);
    Nets.deliver(x, "2 1 0 0");
    Nets.deliver(x, "2 0 1 1");
    Nets.roundsAre(x, 1, 0, 0);
    Nets.deliver(x, "2 0 1 0");
    Nets.roundsAre(x, 1, 0, 0);
    Nets.deliver(x, "2 2 1 0");
    Nets.roundsAre(x, 1, 1, 0);
    Nets.deliver(x, "2 1 2 0");
    Nets.roundsAre(x, 1, 1, 1);
    Nets.deliver(x, "2 2 1 1");
    // SAFE of node 0's round 1 came before.
    Nets.roundsAre(x, 1, 2, 1);
    LockstepNet y = Nets.line(2);
    y.prepare(2, 8);
    y.stopAt(2);
    Nets.deliver(y, "6 0 1 0");
    Nets.deliver(y, "6 1 0 1");
    Nets.roundsAre(y, 0, 1);
    Nets.deliver(y, "6 1 0 0");
    // NEIGHBOUR of node 1's round 1 came before.
    Nets.roundsAre(y, 2, 1);
    Nets.row(y, "6 0 1 1 0");
  }

  private static void toldBefore() {
    for (int way = 0; way < 3; way++) {
      for (int most = 0; most < 14; most++) {
        LockstepNet used = Nets.line(3);
        LockstepNet fresh = Nets.line(3);
        Nets.words(used, Nets.TALK);
        Nets.words(fresh, Nets.TALK);
        used.prepare(way, 2);
        used.stopAt(3);
        used.deliverAll(1, 0, most);
        used.release();
        used.prepare(way, 2);
        fresh.prepare(way, 2);
        used.stopAt(2);
        fresh.stopAt(2);
        for (int i = 0; i < 40 && fresh.letters() > 0; i++) {
          Due.is("letters", fresh.letters(), used::letters);
          Due.same("the first", Nets.letter(fresh, 0), Nets.letter(used, 0));
          fresh.deliver(0);
          used.deliverAll(0, 0, 1);
        }
        Nets.roundsAre(used, 2, 2, 2);
      }
    }
  }

  private static void safeOfAll() {
    LockstepNet x = Nets.star(4);
    x.prepare(0, 2);
    x.stopAt(1);
    Nets.deliver(x, "2 3 0");
    Nets.deliver(x, "2 1 0");
    Nets.roundsAre(x, 0, 0, 0, 0);
    Nets.deliver(x, "2 2 0");
    Nets.roundsAre(x, 1, 0, 0, 0);
    Nets.deliver(x, "2 0 3");
    Nets.roundsAre(x, 1, 0, 0, 1);
  }

  private static void readyOfAll() {
    LockstepNet x = Nets.star(4);
    x.prepare(1, 2);
    x.stopAt(1);
    Nets.row(x, "3 1 0 0 0", "3 2 0 0 0", "3 3 0 0 0");
    x.deliver(2);
    x.deliver(0);
    Nets.row(x, "3 2 0 0 0");
    Nets.roundsAre(x, 0, 0, 0, 0);
    x.deliver(0);
    Nets.row(x, "4 0 1 0 0", "4 0 2 0 0", "4 0 3 0 0");
    Nets.roundsAre(x, 1, 0, 0, 0);
    x.deliver(1);
    Nets.roundsAre(x, 1, 0, 1, 0);
  }

  private static void goFirst() {
    LockstepNet x = Nets.of(3, new int[][] {{1, 2}, {0, 1}});
    Nets.words(x, Nets.TALK);
    x.prepare(1, 2);
    x.stopAt(1);
    Nets.row(x, "3 2 1 0 0");
    x.deliver(0);
    Nets.row(x, "3 1 0 0 0");
    x.deliver(0);
    Nets.row(x, "4 0 1 0 0", "0 0 1 1 1");
    x.deliver(0);
    Nets.row(x, "0 0 1 1 1", "4 1 2 0 0", "0 1 2 1 1", "0 1 0 1 1");
    x.deliver(1);
    Nets.row(x, "0 0 1 1 1", "0 1 2 1 1", "0 1 0 1 1", "0 2 1 1 1");
  }

  /** Clusters 0, 1, 2 and 3, 4 of a line, with link 2 between them. */
  private static void clusterLetters() {
    LockstepNet x = Nets.of(5, new int[][] {{0, 1}, {0, 2}, {2, 3}, {3, 4}});
    Nets.words(x, Nets.TALK);
    Due.is("clusters", 2, () -> x.prepare(2, 2));
    x.stopAt(1);
    Nets.row(x, "3 1 0 0 0", "3 2 0 0 0", "3 4 3 0 0");
    x.deliver(1);
    Due.is("READY of node 1 is due", 2, x::letters);
    x.deliver(0);
    Nets.row(x, "3 4 3 0 0", "5 0 1 0 0", "5 0 2 0 0");
    x.deliver(1);
    Nets.row(x, "3 4 3 0 0", "5 0 2 0 0", "7 1 0 0 0");
    x.deliver(1);
    Nets.row(x, "3 4 3 0 0", "7 1 0 0 0", "6 2 3 0 0");
    x.deliver(1);
    Nets.row(x, "3 4 3 0 0", "6 2 3 0 0");
    x.deliver(1);
    Nets.row(x, "3 4 3 0 0");
    x.deliver(0);
    Nets.row(x, "5 3 4 0 0", "6 3 2 0 0");
    x.deliver(0);
    Nets.row(x, "6 3 2 0 0", "7 4 3 0 0");
    x.deliver(1);
    Nets.row(x, "6 3 2 0 0", "4 3 4 0 0", "0 3 2 1 1", "0 3 4 1 1");
    Nets.roundsAre(x, 0, 0, 0, 1, 0);
    x.deliver(0);
    Nets.row(x, "4 3 4 0 0", "0 3 2 1 1", "0 3 4 1 1", "7 2 0 0 0");
    x.deliver(3);
    Nets.row(x, "4 3 4 0 0", "0 3 2 1 1", "0 3 4 1 1", "4 0 1 0 0", "4 0 2 0 0", "0 0 1 1 1",
        "0 0 2 1 1");
    Nets.roundsAre(x, 1, 0, 0, 1, 0);
    x.deliver(4);
    Nets.roundsAre(x, 1, 0, 1, 1, 0);
    Due.is("others so far", x.count(6), () -> x.count(2));
  }

  private static void oneCluster() {
    LockstepNet x = Nets.star(3);
    Due.is("clusters", 1, () -> x.prepare(2, 3));
    x.stopAt(1);
    x.deliverAll(0, 0, 2);
    Nets.row(x, "5 0 1 0 0", "5 0 2 0 0");
    x.deliver(0);
    Nets.row(x, "5 0 2 0 0", "7 1 0 0 0");
    x.deliverAll(0, 0, 2);
    Nets.roundsAre(x, 0, 0, 0);
    Nets.row(x, "7 2 0 0 0");
    x.deliver(0);
    Nets.roundsAre(x, 1, 0, 0);
    Nets.row(x, "4 0 1 0 0", "4 0 2 0 0");
  }

  private static void singleClusters() {
    LockstepNet x = Nets.line(3);
    Due.is("clusters", 3, () -> x.prepare(2, 8));
    x.stopAt(1);
    Nets.row(x, "6 0 1 0 0", "6 1 0 0 0", "6 1 2 0 0", "6 2 1 0 0");
    x.deliver(3);
    Nets.roundsAre(x, 0, 0, 0);
    x.deliver(0);
    Nets.roundsAre(x, 0, 1, 0);
    x.deliverAll(0, 0, 2000);
    Nets.roundsAre(x, 1, 1, 1);
    Due.is("others", 4, () -> x.count(2));
  }

  private static void belowAndAtStop() {
    for (int way = 0; way < 3; way++) {
      LockstepNet x = Nets.ring(4);
      Nets.words(x, Nets.TALK);
      x.prepare(way, 2);
      int others = x.count(4 + way);
      x.deliverAll(0, 0, 2000);
      Nets.roundsAre(x, 0, 0, 0, 0);
      Due.is("nothing goes at STOP 0", 0, () -> x.count(2));
      for (int k = 1; k <= 3; k++) {
        x.stopAt(k);
        x.deliverAll(1, 0, 2000);
        Nets.roundsAre(x, k, k, k, k);
        Due.is("others up to round " + k, k * others, () -> x.count(2));
        Due.is("program's letters up to round " + k, 8 * k, () -> x.count(0));
      }
    }
  }

  private static void receiptsAtStop() {
    LockstepNet x = Nets.line(2);
    Nets.words(x, Nets.TALK);
    x.prepare(0, 2);
    x.stopAt(1);
    x.deliverAll(0, 0, 2);
    Nets.row(x, "0 1 0 1 1", "0 0 1 1 1");
    x.deliverAll(0, 0, 2);
    Nets.row(x, "1 0 1 1 0", "1 1 0 1 0");
    x.deliver(0);
    Nets.row(x, "1 1 0 1 0");
    x.stopAt(2);
    // Node 1 is safe, node 0 is not.
    Nets.row(x, "1 1 0 1 0", "2 1 0 1 0");
    x.deliver(0);
    Nets.row(x, "2 1 0 1 0", "2 0 1 1 0");
  }

  // Trees and clusters

  private static void treeParents() {
    LockstepNet x = Nets.of(6,
        new int[][] {{0, 4}, {4, 5}, {3, 5}, {0, 3}, {5, 2}, {1, 5}, {1, 2}});
    x.prepare(1, 2);
    Nets.placeIs(x, 0, -1, 0);
    Nets.placeIs(x, 3, 0, 1);
    Nets.placeIs(x, 4, 0, 1);
    Nets.placeIs(x, 5, 3, 2);
    Nets.placeIs(x, 1, 5, 3);
    Nets.placeIs(x, 2, 5, 3);
    LockstepNet y = Nets.line(24);
    y.prepare(1, 2);
    Nets.placeIs(y, 23, 22, 23);
    LockstepNet z = Nets.star(24);
    z.prepare(1, 2);
    Nets.placeIs(z, 23, 0, 1);
    LockstepNet w = new LockstepNet();
    w.net(1);
    w.prepare(1, 2);
    Nets.placeIs(w, 0, -1, 0, 0, -1, 0, 0);
  }

  private static void childrenByNumbers() {
    LockstepNet x = Nets.of(4, new int[][] {{0, 3}, {2, 0}, {0, 1}});
    for (int way = 1; way <= 2; way++) {
      x.prepare(way, 4);
      x.stopAt(1);
      x.deliverAll(1, 0, 3);
      int kind = way == 1 ? 4 : 5;
      Nets.row(x, kind + " 0 1 0 0", kind + " 0 2 0 0", kind + " 0 3 0 0");
      x.release();
    }
    x.prepare(0, 2);
    x.stopAt(1);
    Nets.letterIs(x, 0, "2 0 3 0 0");
    Nets.letterIs(x, 1, "2 0 2 0 0");
    Nets.letterIs(x, 2, "2 0 1 0 0");
  }

  private static void layerSizes() {
    for (int p = 2; p <= 8; p++) {
      int which = p;
      LockstepNet just = Nets.star(p);
      Due.is("p - 1 times as many for p " + p, 1, () -> just.prepare(0, which));
      if (p > 2) {
        LockstepNet less = Nets.star(p - 1);
        Due.is("one less for p " + p, p - 1, () -> less.prepare(0, which));
      }
      LockstepNet more = Nets.star(p + 1);
      Due.is("one more for p " + p, 1, () -> more.prepare(0, which));
    }
    LockstepNet none = new LockstepNet();
    none.net(1);
    for (int p = 2; p <= 8; p++) {
      int which = p;
      Due.is("no layer for p " + p, 1, () -> none.prepare(0, which));
      none.release();
    }
  }

  /** A ball of three nodes, and behind it a layer of three or of two nodes. */
  private static void secondLayer() {
    LockstepNet three = Nets.of(6, new int[][] {{0, 1}, {0, 2}, {1, 3}, {1, 4}, {2, 5}});
    Due.is("three of three, p 2", 1, () -> three.prepare(0, 2));
    Nets.placeIs(three, 5, 2, 2, 0, 2, 2, 0);
    three.release();
    // For p 3: 0, 1, 2 (two are twice one), then 3, 4, 5 each alone.
    Due.is("three of three, p 3", 4, () -> three.prepare(0, 3));
    LockstepNet two = Nets.of(5, new int[][] {{0, 1}, {0, 2}, {1, 3}, {1, 4}});
    Due.is("two of three, p 2", 3, () -> two.prepare(0, 2));
    Nets.placeIs(two, 3, 1, 2, 1, -1, 0, 1);
    Nets.placeIs(two, 4, 1, 2, 2, -1, 0, 1);
    Nets.placeIs(two, 1, 0, 1, 0, 0, 1, 2);
  }

  private static void nodesInNone() {
    // Node 1 is next to 0 and 2 of cluster 0: for cluster 1 they are not there.
    LockstepNet x = Nets.of(5, new int[][] {{0, 2}, {0, 3}, {2, 1}, {3, 1}, {1, 4}});
    Due.is("clusters", 2, () -> x.prepare(0, 2));
    Nets.placeIs(x, 0, -1, 0, 0, -1, 0, 0);
    Nets.placeIs(x, 1, 2, 2, 1, -1, 0, 1);
    Nets.placeIs(x, 2, 0, 1, 0, 0, 1, 1);
    Nets.placeIs(x, 3, 0, 1, 0, 0, 1, 0);
    Nets.placeIs(x, 4, 1, 3, 1, 1, 1, 0);
    Due.is("of links 2 and 3 the least", 2, () -> x.chosen(0, 1));
  }

  private static void clusterParents() {
    // Node 5 is next to 3 and 4 of the layer before, and to 6 of its own.
    LockstepNet x = Nets.of(7, new int[][] {{0, 4}, {0, 3}, {4, 5}, {5, 6}, {3, 5}, {4, 6}, {3, 1},
      {4, 2}});
    Due.is("clusters", 1, () -> x.prepare(0, 2));
    Nets.placeIs(x, 5, 3, 2, 0, 3, 2, 0);
    Nets.placeIs(x, 6, 4, 2, 0, 4, 2, 0);
    Nets.placeIs(x, 1, 3, 2, 0, 3, 2, 0);
    Nets.placeIs(x, 2, 4, 2, 0, 4, 2, 0);
  }

  /** Clusters 0, 1, 2 and 3, 4 with four links between them, in an order that is turned round. */
  private static void leastLink() {
    int[][] between = {{2, 4}, {3, 1}, {1, 4}, {3, 2}};
    for (int turn = 0; turn < 4; turn++) {
      LockstepNet x = Nets.of(5, new int[][] {{0, 1}, {3, 4}});
      for (int i = 0; i < 4; i++) {
        x.link(between[(turn + i) % 4][0], between[(turn + i) % 4][1]);
      }
      x.link(2, 0);
      Due.is("clusters", 2, () -> x.prepare(2, 2));
      Due.is("the least", 2, () -> x.chosen(0, 1));
      Due.is("the other way round", 2, () -> x.chosen(1, 0));
      for (int i = 0; i < 5; i++) {
        int node = i;
        int ends = between[turn][0] == node || between[turn][1] == node ? 1 : 0;
        Due.is("chosen links of " + node, ends, () -> x.place(node, 5));
      }
      Due.is("others for a round", 4 * 3 + 2, () -> x.count(6));
    }
    LockstepNet first = Nets.of(5, new int[][] {{1, 4}, {0, 1}, {3, 4}, {3, 1}, {2, 3}, {0, 2}});
    first.prepare(2, 2);
    Due.is("link 0 is the least", 0, () -> first.chosen(0, 1));
    Nets.placeIs(first, 1, 0, 1, 0, 0, 1, 1);
    Nets.placeIs(first, 3, 1, 2, 1, -1, 0, 0);
    Due.is("no other is chosen", 4 * 3 + 2, () -> first.count(6));
  }

  /** The same object makes runs for other p and other nets: nothing of the trees before stays. */
  private static void otherClusters() {
    LockstepNet x = Nets.line(4);
    for (int p : new int[] {2, 3, 2}) {
      Due.is("clusters", p == 2 ? 2 : 4, () -> x.prepare(2, p));
      Nets.placeIs(x, 0, -1, 0, 0, -1, 0, p == 2 ? 0 : 1);
      Nets.placeIs(x, 1, 0, 1, p == 2 ? 0 : 1, p == 2 ? 0 : -1, p == 2 ? 1 : 0, p == 2 ? 1 : 2);
      Nets.placeIs(x, 3, 2, 3, p == 2 ? 1 : 3, p == 2 ? 2 : -1, p == 2 ? 1 : 0, p == 2 ? 0 : 1);
      Due.is("others for a round", p == 2 ? 4 * 2 + 2 : 2 * 3, () -> x.count(6));
      Due.is("chosen", p == 2 ? 1 : 0, () -> x.chosen(0, 1));
      x.stopAt(2);
      x.deliverAll(0, 0, 2000);
      Nets.roundsAre(x, 2, 2, 2, 2);
      Due.is("others", 2 * x.count(6), () -> x.count(2));
      x.release();
    }
    x.net(4);
    x.link(3, 0);
    x.link(2, 0);
    x.link(1, 0);
    for (int way = 1; way <= 2; way++) {
      x.prepare(way, 2);
      Nets.placeIs(x, 0, -1, 0, 0, -1, 0, 0);
      Nets.placeIs(x, 1, 0, 1, 0, 0, 1, 0);
      Nets.placeIs(x, 3, 0, 1, 0, 0, 1, 0);
      x.stopAt(2);
      x.deliverAll(1, 0, 2000);
      Nets.roundsAre(x, 2, 2, 2, 2);
      x.release();
    }
  }

  // Full

  private static void fullNet() {
    for (int way = 0; way < 3; way++) {
      LockstepNet x = Nets.full();
      Nets.words(x, Nets.TALK);
      x.prepare(way, 2);
      x.stopAt(3);
      int others = x.count(4 + way);
      int all = 0;
      for (int i = 0; i < 5 && x.letters() > 0; i++) {
        all += x.deliverAll(i % 3, i, 2000);
      }
      Due.is("a border", 4, () -> x.switchTo(0));
      Due.is("none is left", 0, x::letters);
      Due.is("program's", 3 * 120, () -> x.count(0));
      Due.is("receipts", 3 * 120, () -> x.count(1));
      Due.is("others", 3 * others, () -> x.count(2));
      Due.same("all came", 6 * 120 + 3 * others, all);
      for (int i = 0; i < 24; i++) {
        int node = i;
        Due.is("round of " + node, 3, () -> x.roundOf(node));
      }
    }
  }
}
