import java.util.Arrays;
import java.util.NoSuchElementException;

/**
 * Nodes of a net without a clock run a program by rounds: its letters come late and in any order,
 * and one of three ways of waiting for each other sees to it that each round uses just the letters
 * of the round before, as if all went in lockstep; the way may be changed on the run.
 */
public final class LockstepNet {
  private static final int MOST_NODES = 24;
  private static final int MOST_LINKS = 60;
  private static final int MOST_WORDS = 64;
  private static final int REGISTERS = 8;
  private static final int BUILTINS = 5;
  private static final int WAYS = 3;
  private static final int LEAST_P = 2;
  private static final int MOST_P = 8;
  private static final int MOST_PLAIN_ROUNDS = 300;
  private static final int MOST_STOP = 500;
  private static final int MOST_DELIVERIES = 2000;
  private static final int MOST_SWITCHES = 8;

  private static final int WAY_NODES = 0;
  private static final int WAY_TREE = 1;

  private static final int RULE_FIRST = 0;
  private static final int RULE_LAST = 1;
  private static final int RULE_SEED = 2;

  private static final int PROGRAM_LETTER = 0;
  private static final int RECEIPT = 1;
  private static final int SAFE = 2;
  private static final int READY = 3;
  private static final int GO = 4;
  private static final int CLUSTER = 5;
  private static final int NEIGHBOUR = 6;
  private static final int ALL = 7;
  private static final int KINDS = 8;

  private final Net graph;
  private final Program words;
  private final int[] inputs;
  private final PlainRun plainRun;
  private final Run run;
  private boolean prepared;

  public LockstepNet() {
    graph = new Net();
    words = new Program();
    inputs = new int[MOST_NODES * REGISTERS];
    Processor processor = new Processor(graph, words);
    plainRun = new PlainRun(graph, processor);
    run = new Run(graph, processor);
    prepared = false;
  }

  public void net(int n) throws IllegalArgumentException, IllegalStateException {
    needArgument(n >= 1 && n <= MOST_NODES);
    needState(!prepared);
    graph.restart(n);
    Arrays.fill(inputs, 0);
    plainRun.wipe();
  }

  public int link(int a, int b)
      throws NoSuchElementException, IllegalArgumentException, IllegalStateException,
          UnsupportedOperationException {
    needNode(a);
    needNode(b);
    needArgument(a != b);
    needState(!prepared && !graph.areJoined(a, b));
    needRoom(graph.links < MOST_LINKS);
    return graph.join(a, b);
  }

  public int word(int i, int op, int r, int a, int b)
      throws IllegalArgumentException, IllegalStateException, UnsupportedOperationException {
    needArgument(i >= 0 && i <= words.size);
    needState(!prepared);
    needRoom(i < MOST_WORDS);
    words.put(i, op, r, a, b);
    return words.size;
  }

  public int builtin(int k) throws IllegalArgumentException, IllegalStateException {
    needArgument(k >= 0 && k < BUILTINS);
    needState(!prepared);
    words.load(k);
    return words.size;
  }

  public void cutAt(int n) throws IllegalArgumentException, IllegalStateException {
    needArgument(n >= 0 && n <= words.size);
    needState(!prepared);
    words.size = n;
  }

  public int check() {
    return words.firstWrong();
  }

  public void input(int node, int r, int v)
      throws NoSuchElementException, IndexOutOfBoundsException, IllegalStateException {
    needNode(node);
    needIndex(r, REGISTERS);
    needState(!prepared);
    inputs[node * REGISTERS + r] = v;
  }

  public void lockstep(int rounds) throws IllegalArgumentException, IllegalStateException {
    needArgument(rounds >= 0 && rounds <= MOST_PLAIN_ROUNDS);
    needState(words.firstWrong() < 0);
    plainRun.perform(inputs, rounds);
  }

  public int plain(int node, int r) throws NoSuchElementException, IndexOutOfBoundsException {
    needNode(node);
    needIndex(r, REGISTERS);
    return plainRun.registers[node * REGISTERS + r];
  }

  public int prepare(int way, int p) throws IllegalArgumentException, IllegalStateException {
    needArgument(way >= 0 && way < WAYS && p >= LEAST_P && p <= MOST_P);
    needState(!prepared && words.firstWrong() < 0 && graph.isWhole());
    run.begin(inputs, way, p);
    prepared = true;
    return run.clusters.made;
  }

  public void release() throws IllegalStateException {
    needState(prepared);
    prepared = false;
  }

  public void stopAt(int round) throws IllegalStateException, IllegalArgumentException {
    needState(prepared);
    needArgument(round >= run.stop && round <= MOST_STOP);
    run.stop = round;
    for (int node = 0; node < graph.size; node++) {
      run.act(node);
    }
  }

  public int letters() {
    return prepared ? run.row.size : 0;
  }

  public int letter(int i, int what) throws IndexOutOfBoundsException {
    needIndex(i, prepared ? run.row.size : 0);
    needIndex(what, Row.PARTS);
    return run.row.part(i, what);
  }

  public int deliver(int i) throws IndexOutOfBoundsException {
    needIndex(i, prepared ? run.row.size : 0);
    return run.handOver(i);
  }

  public int deliverAll(int rule, int seed, int most)
      throws IllegalArgumentException, IllegalStateException {
    needArgument(rule >= RULE_FIRST && rule <= RULE_SEED && most >= 0 && most <= MOST_DELIVERIES);
    needState(prepared);
    int now = seed;
    int done = 0;
    while (done < most && run.row.size > 0) {
      int at = 0;
      if (rule == RULE_LAST) {
        at = run.row.size - 1;
      } else if (rule == RULE_SEED) {
        now = now * 1103515245 + 12345;
        at = (now >>> 16) % run.row.size;
      }
      run.handOver(at);
      done++;
    }
    return done;
  }

  public int switchTo(int way)
      throws IllegalArgumentException, IllegalStateException, UnsupportedOperationException {
    needArgument(way >= 0 && way < WAYS);
    needState(prepared);
    needRoom(run.switches < MOST_SWITCHES);
    return run.changeWay(way);
  }

  public int roundOf(int node) throws NoSuchElementException, IllegalStateException {
    needNode(node);
    needState(prepared);
    return run.rounds[node];
  }

  public int value(int node, int r)
      throws NoSuchElementException, IndexOutOfBoundsException, IllegalStateException {
    needNode(node);
    needIndex(r, REGISTERS);
    needState(prepared);
    return run.registers[node * REGISTERS + r];
  }

  public int place(int node, int what)
      throws NoSuchElementException, IndexOutOfBoundsException, IllegalStateException {
    needNode(node);
    needIndex(what, 6);
    needState(prepared);
    switch (what) {
      case 0:
        return run.tree.parent[node];
      case 1:
        return run.tree.depth[node];
      case 2:
        return run.clusters.clusterOf[node];
      case 3:
        return run.clusters.tree.parent[node];
      case 4:
        return run.clusters.tree.depth[node];
      default:
        return Integer.bitCount(run.clusters.chosenTo[node]);
    }
  }

  public int chosen(int c, int d) throws IndexOutOfBoundsException {
    int there = prepared ? run.clusters.made : 0;
    needIndex(c, there);
    needIndex(d, there);
    return run.clusters.chosenLink[c * MOST_NODES + d];
  }

  public int count(int what) throws IndexOutOfBoundsException {
    needIndex(what, prepared ? 7 : 0);
    switch (what) {
      case 0:
      case 1:
      case 2:
        return run.row.sent[what];
      case 3:
        return run.widest;
      case 4:
        return 2 * graph.links;
      case 5:
        return 2 * (graph.size - 1);
      default:
        return 4 * (graph.size - run.clusters.made) + 2 * run.clusters.chosenLinks;
    }
  }

  private void needNode(int node) {
    if (node < 0 || node >= graph.size) {
      throw new NoSuchElementException("there is no such node");
    }
  }

  private static void needIndex(int index, int end) {
    if (index < 0 || index >= end) {
      throw new IndexOutOfBoundsException("there is none of this number");
    }
  }

  private static void needArgument(boolean fits) {
    if (!fits) {
      throw new IllegalArgumentException("an argument is outside its range");
    }
  }

  private static void needState(boolean fits) {
    if (!fits) {
      throw new IllegalStateException("not in this state");
    }
  }

  private static void needRoom(boolean fits) {
    if (!fits) {
      throw new UnsupportedOperationException("there is no room for another one");
    }
  }

  /** The number of the lowest bit of a set of nodes; MOST_NODES when it is empty. */
  private static int lowest(int set) {
    int node = 0;
    while (node < MOST_NODES && (set >>> node & 1) == 0) {
      node++;
    }
    return node;
  }

  /** Nodes and links. Sets of nodes are the bits of an int, as there are at most 24 of them. */
  private static final class Net {
    private int size;
    private int links;
    private final int[] ends;
    private final int[] ports;
    private final int[] neighbourAt;
    private final int[] neighbours;

    private Net() {
      size = 0;
      links = 0;
      ends = new int[MOST_LINKS * 2];
      ports = new int[MOST_NODES];
      neighbourAt = new int[MOST_NODES * MOST_NODES];
      neighbours = new int[MOST_NODES];
    }

    private void restart(int n) {
      size = n;
      links = 0;
      Arrays.fill(ports, 0);
      Arrays.fill(neighbours, 0);
    }

    private boolean areJoined(int a, int b) {
      return (neighbours[a] >>> b & 1) == 1;
    }

    private int join(int a, int b) {
      ends[links * 2] = a;
      ends[links * 2 + 1] = b;
      addPort(a, b);
      addPort(b, a);
      return links++;
    }

    private void addPort(int node, int other) {
      neighbourAt[node * MOST_NODES + ports[node]] = other;
      ports[node]++;
      neighbours[node] |= 1 << other;
    }

    private int neighbour(int node, int port) {
      return neighbourAt[node * MOST_NODES + port];
    }

    private int everyNode() {
      return (1 << size) - 1;
    }

    private int nextTo(int ball) {
      int found = 0;
      for (int node = 0; node < size; node++) {
        if ((ball >>> node & 1) == 1) {
          found |= neighbours[node];
        }
      }
      return found & ~ball;
    }

    private boolean isWhole() {
      int reached = 1;
      for (int step = 1; step < size; step++) {
        reached |= nextTo(reached);
      }
      return size > 0 && reached == everyNode();
    }
  }

  /** The words, and which of them are wrong. */
  private static final class Program {
    private static final int SET = 0;
    private static final int COPY = 1;
    private static final int ADD = 2;
    private static final int SUB = 3;
    private static final int MUL = 4;
    private static final int MIN = 5;
    private static final int MAX = 6;
    private static final int LESS = 7;
    private static final int SAME = 8;
    private static final int AND = 9;
    private static final int OR = 10;
    private static final int XOR = 11;
    private static final int BIT = 12;
    private static final int FREE = 13;
    private static final int SKIP = 14;
    private static final int EACH = 15;
    private static final int GOT = 16;
    private static final int TAKE = 17;
    private static final int SEND = 18;
    private static final int ROUND = 19;
    private static final int SELF = 20;
    private static final int PORTS = 21;

    private static final int PARTS = 4;

    private static final int[] LAYERS = {
      0, 3, 1, 0,  8, 2, 0, 3,  14, 2, 4, 0,  15, 4, 1, 0,  18, 3, 0, 0,  0, 0, 2, 0,
      0, 2, 0, 0,  8, 2, 0, 2,  14, 2, 6, 0,  15, 4, 5, 0,  16, 5, 0, 0,  14, 5, 3, 0,
      0, 0, 1, 0,  19, 1, 0, 0,  0, 2, 0, 0,
    };
    private static final int[] LEAST = {
      15, 4, 4, 0,  16, 2, 0, 0,  14, 2, 2, 0,  17, 2, 0, 0,  5, 0, 0, 2,  15, 4, 1, 0,
      18, 0, 0, 0,
    };
    private static final int[] CELLS = {
      15, 4, 2, 0,  17, 2, 0, 0,  2, 1, 1, 2,  19, 5, 0, 0,  0, 6, 1, 0,  7, 5, 6, 5,
      14, 5, 8, 0,  0, 2, 3, 0,  8, 3, 1, 2,  0, 2, 2, 0,  8, 2, 1, 2,  9, 2, 2, 0,
      10, 0, 3, 2,  0, 1, 0, 0,  0, 6, 0, 0,  15, 4, 1, 0,  18, 0, 0, 0,
    };
    private static final int[] WALKS = {
      19, 5, 0, 0,  0, 6, 1, 0,  7, 5, 6, 5,  14, 5, 5, 0,  0, 1, 0, 0,  15, 4, 2, 0,
      17, 2, 0, 0,  2, 1, 1, 2,  1, 0, 1, 0,  15, 4, 1, 0,  18, 0, 0, 0,
    };
    private static final int[] COLOURS = {
      0, 3, 0, 0,  0, 5, 0, 0,  15, 4, 9, 0,  17, 2, 0, 0,  7, 6, 3, 2,  14, 6, 1, 0,
      6, 5, 5, 2,  7, 6, 2, 3,  14, 6, 3, 0,  3, 2, 3, 2,  12, 2, 2, 0,  10, 7, 7, 2,
      19, 2, 0, 0,  0, 6, 1, 0,  7, 2, 6, 2,  8, 6, 1, 3,  9, 2, 2, 6,  20, 6, 0, 0,
      0, 4, 1, 0,  2, 6, 6, 4,  7, 4, 5, 6,  9, 2, 2, 4,  14, 2, 3, 0,  0, 4, 1, 0,
      10, 7, 7, 4,  13, 1, 7, 0,  8, 4, 1, 3,  3, 5, 3, 1,  14, 4, 1, 0,  1, 5, 6, 0,
      15, 4, 1, 0,  18, 5, 0, 0,
    };

    private int size;
    private final int[] ops;
    private final int[] rs;
    private final int[] as;
    private final int[] bs;

    private Program() {
      size = 0;
      ops = new int[MOST_WORDS];
      rs = new int[MOST_WORDS];
      as = new int[MOST_WORDS];
      bs = new int[MOST_WORDS];
    }

    private void put(int i, int op, int r, int a, int b) {
      ops[i] = op;
      rs[i] = r;
      as[i] = a;
      bs[i] = b;
      if (i == size) {
        size++;
      }
    }

    private void load(int k) {
      int[] from = writtenOut(k);
      size = 0;
      for (int i = 0; i < from.length / PARTS; i++) {
        int at = i * PARTS;
        put(i, from[at], from[at + 1], from[at + 2], from[at + 3]);
      }
    }

    private static int[] writtenOut(int k) {
      switch (k) {
        case 0:
          return LAYERS;
        case 1:
          return LEAST;
        case 2:
          return CELLS;
        case 3:
          return WALKS;
        default:
          return COLOURS;
      }
    }

    private int firstWrong() {
      for (int i = 0; i < size; i++) {
        if (isWrong(i)) {
          return i;
        }
      }
      return -1;
    }

    /** Asked only when no word before i is wrong, so that i lies in one EACH at most. */
    private boolean isWrong(int i) {
      int op = ops[i];
      if (op < SET || op > PORTS || !isRegister(rs[i])) {
        return true;
      }
      if (op >= COPY && op <= FREE && !isRegister(as[i])) {
        return true;
      }
      if (op >= ADD && op <= XOR && !isRegister(bs[i])) {
        return true;
      }
      int around = eachAround(i);
      if (op == SKIP) {
        return !holdsItsWords(i, around) || around < 0 && eachAround(i + as[i] + 1) >= 0;
      }
      if (op == EACH) {
        return around >= 0 || !holdsItsWords(i, around);
      }
      return op >= GOT && op <= SEND && around < 0;
    }

    private static boolean isRegister(int number) {
      return number >= 0 && number < REGISTERS;
    }

    /** Whether the words of the SKIP or EACH i end with those of the EACH around it, or before. */
    private boolean holdsItsWords(int i, int around) {
      int last = around < 0 ? size - 1 : around + as[around];
      return as[i] >= 1 && as[i] <= last - i;
    }

    /** The latest EACH among whose words word i is; -1 when it is in none, or is no word. */
    private int eachAround(int i) {
      if (i >= size) {
        return -1;
      }
      for (int each = i - 1; each >= 0; each--) {
        if (ops[each] == EACH && as[each] >= i - each) {
          return each;
        }
      }
      return -1;
    }
  }

  /** Does the program once, for one node and round; what is to be sent stays in its out rows. */
  private static final class Processor {
    // Each word is done at most once for each port.
    private static final int MOST_STEPS = MOST_WORDS * MOST_NODES;

    private final Net net;
    private final Program program;
    private final int[] in;
    private final boolean[] came;
    private final int[] out;
    private final boolean[] goes;
    private final int[] registers;
    private int node;
    private int round;
    private int each;
    private int port;

    private Processor(Net net, Program program) {
      this.net = net;
      this.program = program;
      in = new int[MOST_NODES];
      came = new boolean[MOST_NODES];
      out = new int[MOST_NODES];
      goes = new boolean[MOST_NODES];
      registers = new int[REGISTERS];
      node = 0;
      round = 0;
      each = -1;
      port = 0;
    }

    /** Comes before perform: whose round it is, and the letters for it. */
    private void open(int whose, int which, Told told) {
      node = whose;
      round = which;
      int senders = told.senders(PROGRAM_LETTER, node, round - 1);
      for (int p = 0; p < net.ports[node]; p++) {
        int neighbour = net.neighbour(node, p);
        came[p] = (senders >>> neighbour & 1) == 1;
        in[p] = came[p] ? told.valueFrom(neighbour, node, round - 1) : 0;
        goes[p] = false;
      }
    }

    private void perform(int[] allRegisters) {
      System.arraycopy(allRegisters, node * REGISTERS, registers, 0, REGISTERS);
      each = -1;
      int at = 0;
      for (int step = 0; step < MOST_STEPS && at < program.size; step++) {
        at = doWord(at);
        if (each >= 0 && at > each + program.as[each]) {
          at = goToNextPort(at);
        }
      }
      System.arraycopy(registers, 0, allRegisters, node * REGISTERS, REGISTERS);
    }

    private int doWord(int at) {
      int op = program.ops[at];
      int r = program.rs[at];
      if (op == Program.SKIP) {
        return registers[r] == 0 ? at + program.as[at] + 1 : at + 1;
      }
      if (op == Program.EACH) {
        return enterEach(at);
      }
      if (op == Program.SEND) {
        out[port] = registers[r];
        goes[port] = true;
      } else if (op == Program.FREE) {
        registers[r] = lowestFree(registers[program.as[at]]);
      } else if (op >= Program.COPY && op <= Program.BIT) {
        registers[r] = putTogether(at);
      } else {
        registers[r] = look(at);
      }
      return at + 1;
    }

    private int enterEach(int at) {
      if (net.ports[node] == 0) {
        return at + program.as[at] + 1;
      }
      each = at;
      port = 0;
      registers[program.rs[at]] = port;
      return at + 1;
    }

    private int goToNextPort(int at) {
      port++;
      if (port < net.ports[node]) {
        registers[program.rs[each]] = port;
        return each + 1;
      }
      each = -1;
      return at;
    }

    private int putTogether(int at) {
      int op = program.ops[at];
      int x = registers[program.as[at]];
      if (op == Program.COPY) {
        return x;
      }
      if (op == Program.BIT) {
        return 1 << (x & 31);
      }
      int y = registers[program.bs[at]];
      switch (op) {
        case Program.ADD:
          return x + y;
        case Program.SUB:
          return x - y;
        case Program.MUL:
          return x * y;
        case Program.MIN:
          return x < y ? x : y;
        case Program.MAX:
          return x > y ? x : y;
        case Program.LESS:
          return x < y ? 1 : 0;
        case Program.SAME:
          return x == y ? 1 : 0;
        case Program.AND:
          return x & y;
        case Program.OR:
          return x | y;
        default:
          return x ^ y;
      }
    }

    private static int lowestFree(int x) {
      int bit = 0;
      while (bit < 32 && (x >>> bit & 1) == 1) {
        bit++;
      }
      return bit;
    }

    private int look(int at) {
      switch (program.ops[at]) {
        case Program.GOT:
          return came[port] ? 1 : 0;
        case Program.TAKE:
          return in[port];
        case Program.ROUND:
          return round;
        case Program.SELF:
          return node;
        case Program.PORTS:
          return net.ports[node];
        default:
          return program.as[at];
      }
    }
  }

  /**
   * What nodes were told. A neighbour is one round ahead at most, and all letters of a round come
   * before their node leaves it: so two places, for even and odd rounds, hold all.
   */
  private static final class Told {
    private final int[] sendersOf;
    private final int[] values;

    private Told() {
      sendersOf = new int[KINDS * 2 * MOST_NODES];
      values = new int[2 * MOST_NODES * MOST_NODES];
    }

    private void forgetAll() {
      Arrays.fill(sendersOf, 0);
    }

    private void forget(int node, int round) {
      for (int kind = 0; kind < KINDS; kind++) {
        sendersOf[spot(kind, node, round)] = 0;
      }
    }

    private void note(int kind, int from, int to, int round) {
      sendersOf[spot(kind, to, round)] |= 1 << from;
    }

    private void noteValue(int from, int to, int round, int value) {
      note(PROGRAM_LETTER, from, to, round);
      values[valueSpot(from, to, round)] = value;
    }

    private int senders(int kind, int node, int round) {
      return sendersOf[spot(kind, node, round)];
    }

    private boolean hasAll(int kind, int node, int round, int needed) {
      return (needed & ~senders(kind, node, round)) == 0;
    }

    private int valueFrom(int from, int to, int round) {
      return values[valueSpot(from, to, round)];
    }

    private static int spot(int kind, int node, int round) {
      return (kind * 2 + (round & 1)) * MOST_NODES + node;
    }

    private static int valueSpot(int from, int to, int round) {
      return ((round & 1) * MOST_NODES + to) * MOST_NODES + from;
    }
  }

  /** The plain run: what the program comes to when all nodes go in step. */
  private static final class PlainRun {
    private final Net net;
    private final Processor processor;
    private final Told told;
    private final int[] registers;

    private PlainRun(Net net, Processor processor) {
      this.net = net;
      this.processor = processor;
      told = new Told();
      registers = new int[MOST_NODES * REGISTERS];
    }

    private void wipe() {
      Arrays.fill(registers, 0);
    }

    private void perform(int[] inputs, int rounds) {
      System.arraycopy(inputs, 0, registers, 0, registers.length);
      told.forgetAll();
      for (int round = 1; round <= rounds; round++) {
        for (int node = 0; node < net.size; node++) {
          doRound(node, round);
        }
      }
    }

    private void doRound(int node, int round) {
      processor.open(node, round, told);
      processor.perform(registers);
      told.forget(node, round - 1);
      for (int port = 0; port < net.ports[node]; port++) {
        if (processor.goes[port]) {
          told.noteValue(node, net.neighbour(node, port), round, processor.out[port]);
        }
      }
    }
  }

  /** Letters under way, in the order in which they were sent. */
  private static final class Row {
    private static final int PARTS = 5;
    private static final int KIND = 0;
    private static final int FROM = 1;
    private static final int TO = 2;
    private static final int ROUND = 3;
    private static final int VALUE = 4;

    // Each way over a link bears at most one program's letter, one receipt, and of two rounds one
    // letter of waiting each.
    private static final int MOST_LETTERS = MOST_LINKS * 2 * 4;

    private int size;
    private final int[] cells;
    private final int[] sent;

    private Row() {
      size = 0;
      cells = new int[MOST_LETTERS * PARTS];
      sent = new int[3];
    }

    private void restart() {
      size = 0;
      Arrays.fill(sent, 0);
    }

    private int part(int i, int what) {
      return cells[i * PARTS + what];
    }

    private void send(int kind, int from, int to, int round, int value) {
      if (size >= MOST_LETTERS) {
        return;
      }
      sent[kind < SAFE ? kind : 2]++;
      int at = size * PARTS;
      cells[at + KIND] = kind;
      cells[at + FROM] = from;
      cells[at + TO] = to;
      cells[at + ROUND] = round;
      cells[at + VALUE] = value;
      size++;
    }

    private void drop(int i) {
      int behind = (i + 1) * PARTS;
      System.arraycopy(cells, behind, cells, i * PARTS, size * PARTS - behind);
      size--;
    }
  }

  /** A tree, or several that share no node. */
  private static final class Tree {
    private final int[] parent;
    private final int[] depth;
    private final int[] children;

    private Tree() {
      parent = new int[MOST_NODES];
      depth = new int[MOST_NODES];
      children = new int[MOST_NODES];
    }

    /**
     * Grows a tree by layers of free nodes, each of at least so many times the nodes that there
     * are (0 times: all that are reached): its nodes.
     */
    private int grow(Net net, int root, int free, int times) {
      parent[root] = -1;
      depth[root] = 0;
      children[root] = 0;
      int ball = 1 << root;
      int before = ball;
      int layer = net.nextTo(ball) & free;
      for (int deep = 1; deep < MOST_NODES && layer != 0; deep++) {
        if (Integer.bitCount(layer) < times * Integer.bitCount(ball)) {
          break;
        }
        addLayer(net, layer, before, deep);
        ball |= layer;
        before = layer;
        layer = net.nextTo(ball) & free;
      }
      return ball;
    }

    private void addLayer(Net net, int layer, int before, int deep) {
      for (int node = 0; node < net.size; node++) {
        if ((layer >>> node & 1) == 1) {
          int above = lowest(net.neighbours[node] & before);
          parent[node] = above;
          depth[node] = deep;
          children[node] = 0;
          children[above] |= 1 << node;
        }
      }
    }
  }

  /** The clusters, their trees, and the links chosen between them. */
  private static final class Clusters {
    private final Net net;
    private final Tree tree;
    private int made;
    private int chosenLinks;
    private final int[] clusterOf;
    private final int[] chosenLink;
    private final int[] chosenTo;

    private Clusters(Net net) {
      this.net = net;
      tree = new Tree();
      made = 0;
      chosenLinks = 0;
      clusterOf = new int[MOST_NODES];
      chosenLink = new int[MOST_NODES * MOST_NODES];
      chosenTo = new int[MOST_NODES];
    }

    private void make(int p) {
      int free = net.everyNode();
      for (made = 0; made < MOST_NODES && free != 0; made++) {
        int ball = tree.grow(net, lowest(free), free, p - 1);
        for (int node = 0; node < net.size; node++) {
          if ((ball >>> node & 1) == 1) {
            clusterOf[node] = made;
          }
        }
        free &= ~ball;
      }
      choose();
    }

    private void choose() {
      Arrays.fill(chosenLink, -1);
      Arrays.fill(chosenTo, 0);
      chosenLinks = 0;
      for (int link = 0; link < net.links; link++) {
        int a = net.ends[link * 2];
        int b = net.ends[link * 2 + 1];
        int there = clusterOf[a] * MOST_NODES + clusterOf[b];
        if (clusterOf[a] != clusterOf[b] && chosenLink[there] < 0) {
          chosenLink[there] = link;
          chosenLink[clusterOf[b] * MOST_NODES + clusterOf[a]] = link;
          chosenTo[a] |= 1 << b;
          chosenTo[b] |= 1 << a;
          chosenLinks++;
        }
      }
    }
  }

  /** A run without a clock: the nodes' rounds, the letters under way, and the ways of waiting. */
  private static final class Run {
    // How far a node is with leaving its round.
    private static final int AT_WORK = 0;
    private static final int REPORTED = 1;
    private static final int WAS_TOLD = 2;
    private static final int SENT_ALL = 3;

    // What a node could do.
    private static final int NOTHING = 0;
    private static final int SOMETHING = 1;
    private static final int LEAVE = 2;

    // Far above what a node can do up to the greatest STOP.
    private static final int MOST_ACTS = 100000;

    private final Net net;
    private final Processor processor;
    private final Told told;
    private final Row row;
    private final Tree tree;
    private final Clusters clusters;
    private final int[] registers;
    private final int[] rounds;
    private final int[] stage;
    private final int[] unreceipted;
    private final int[] ways;
    private final int[] borders;
    private int switches;
    private int stop;
    private int widest;

    private Run(Net net, Processor processor) {
      this.net = net;
      this.processor = processor;
      told = new Told();
      row = new Row();
      tree = new Tree();
      clusters = new Clusters(net);
      registers = new int[MOST_NODES * REGISTERS];
      rounds = new int[MOST_NODES];
      stage = new int[MOST_NODES];
      unreceipted = new int[MOST_NODES];
      ways = new int[MOST_SWITCHES + 1];
      borders = new int[MOST_SWITCHES + 1];
      switches = 0;
      stop = 0;
      widest = 0;
    }

    private void begin(int[] inputs, int way, int p) {
      tree.grow(net, 0, net.everyNode(), 0);
      clusters.make(p);
      told.forgetAll();
      row.restart();
      System.arraycopy(inputs, 0, registers, 0, registers.length);
      Arrays.fill(rounds, 0);
      Arrays.fill(stage, AT_WORK);
      Arrays.fill(unreceipted, 0);
      ways[0] = way;
      borders[0] = 0;
      switches = 0;
      stop = 0;
      widest = 0;
    }

    private int changeWay(int way) {
      int greatest = 0;
      for (int node = 0; node < net.size; node++) {
        greatest = Math.max(greatest, rounds[node]);
      }
      switches++;
      ways[switches] = way;
      borders[switches] = greatest + 1;
      return greatest + 1;
    }

    private int wayOutOf(int round) {
      int i = switches;
      while (i > 0 && borders[i] > round) {
        i--;
      }
      return ways[i];
    }

    private int handOver(int i) {
      int kind = row.part(i, Row.KIND);
      int from = row.part(i, Row.FROM);
      int to = row.part(i, Row.TO);
      int round = row.part(i, Row.ROUND);
      int value = row.part(i, Row.VALUE);
      row.drop(i);
      if (kind == RECEIPT) {
        unreceipted[to]--;
      } else if (kind == PROGRAM_LETTER) {
        told.noteValue(from, to, round, value);
        row.send(RECEIPT, to, from, round, 0);
      } else {
        told.note(kind, from, to, round);
      }
      act(to);
      return kind;
    }

    private void act(int node) {
      for (int acts = 0; acts < MOST_ACTS; acts++) {
        int way = wayOutOf(rounds[node]);
        int done;
        if (way == WAY_NODES) {
          done = actByNodes(node);
        } else if (way == WAY_TREE) {
          done = actByTree(node);
        } else {
          done = actByClusters(node);
        }
        if (done == NOTHING) {
          return;
        }
        if (done == LEAVE) {
          doNextRound(node);
        }
      }
    }

    private int actByNodes(int node) {
      int round = rounds[node];
      if (stage[node] == AT_WORK) {
        if (!mayLeave(node)) {
          return NOTHING;
        }
        sendByPorts(SAFE, node, net.neighbours[node]);
        stage[node] = REPORTED;
        return SOMETHING;
      }
      return told.hasAll(SAFE, node, round, net.neighbours[node]) ? LEAVE : NOTHING;
    }

    private int actByTree(int node) {
      int round = rounds[node];
      if (stage[node] == AT_WORK) {
        if (!mayLeave(node) || !told.hasAll(READY, node, round, tree.children[node])) {
          return NOTHING;
        }
        return tree.parent[node] < 0 ? go(node, tree) : report(READY, node, tree, REPORTED);
      }
      return told.senders(GO, node, round) != 0 ? go(node, tree) : NOTHING;
    }

    private int actByClusters(int node) {
      int round = rounds[node];
      Tree own = clusters.tree;
      boolean leads = own.parent[node] < 0;
      switch (stage[node]) {
        case AT_WORK:
          if (!mayLeave(node) || !told.hasAll(READY, node, round, own.children[node])) {
            return NOTHING;
          }
          return leads ? tellOthers(node) : report(READY, node, own, REPORTED);
        case REPORTED:
          return told.senders(CLUSTER, node, round) != 0 ? tellOthers(node) : NOTHING;
        case WAS_TOLD:
          if (!told.hasAll(NEIGHBOUR, node, round, clusters.chosenTo[node])
              || !told.hasAll(ALL, node, round, own.children[node])) {
            return NOTHING;
          }
          return leads ? go(node, own) : report(ALL, node, own, SENT_ALL);
        default:
          return told.senders(GO, node, round) != 0 ? go(node, own) : NOTHING;
      }
    }

    private boolean mayLeave(int node) {
      return unreceipted[node] == 0 && rounds[node] < stop;
    }

    private int report(int kind, int node, Tree own, int next) {
      row.send(kind, node, own.parent[node], rounds[node], 0);
      stage[node] = next;
      return SOMETHING;
    }

    private int tellOthers(int node) {
      sendToChildren(CLUSTER, node, clusters.tree);
      sendByPorts(NEIGHBOUR, node, clusters.chosenTo[node]);
      stage[node] = WAS_TOLD;
      return SOMETHING;
    }

    private int go(int node, Tree own) {
      sendToChildren(GO, node, own);
      return LEAVE;
    }

    private void doNextRound(int node) {
      int next = rounds[node] + 1;
      processor.open(node, next, told);
      processor.perform(registers);
      told.forget(node, next - 1);
      rounds[node] = next;
      stage[node] = AT_WORK;
      for (int port = 0; port < net.ports[node]; port++) {
        if (processor.goes[port]) {
          row.send(PROGRAM_LETTER, node, net.neighbour(node, port), next, processor.out[port]);
          unreceipted[node]++;
        }
      }
      seeHowWide();
    }

    private void seeHowWide() {
      int least = rounds[0];
      int greatest = rounds[0];
      for (int node = 1; node < net.size; node++) {
        least = Math.min(least, rounds[node]);
        greatest = Math.max(greatest, rounds[node]);
      }
      widest = Math.max(widest, greatest - least);
    }

    private void sendByPorts(int kind, int node, int receivers) {
      for (int port = 0; port < net.ports[node]; port++) {
        int other = net.neighbour(node, port);
        if ((receivers >>> other & 1) == 1) {
          row.send(kind, node, other, rounds[node], 0);
        }
      }
    }

    private void sendToChildren(int kind, int node, Tree own) {
      for (int child = 0; child < net.size; child++) {
        if ((own.children[node] >>> child & 1) == 1) {
          row.send(kind, node, child, rounds[node], 0);
        }
      }
    }
  }
}
