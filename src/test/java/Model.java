import java.util.ArrayList;
import java.util.Arrays;
import java.util.Collections;
import java.util.HashMap;
import java.util.HashSet;
import java.util.List;
import java.util.Map;
import java.util.NoSuchElementException;
import java.util.Set;
import java.util.TreeSet;

/**
 * The document told once more in the plainest Java, to be compared with LockstepNet: nothing is
 * reused or forgotten, what a node knows is kept by round for ever.
 */
final class Model {
  static final class Letter {
    final int[] parts;

    Letter(int kind, int from, int to, int round, int value) {
      parts = new int[] {kind, from, to, round, value};
    }
  }

  static final class Node {
    int round = 0;
    int[] registers = new int[8];
    int waitingFor = 0;
    /** Port's neighbour to value, by the sender's round. */
    final Map<Integer, Map<Integer, Integer>> mail = new HashMap<>();
    /** "kind round sender" of what came, "did ..." of what was done. */
    final Set<String> facts = new HashSet<>();
  }

  int n = 0;
  final List<int[]> links = new ArrayList<>();
  final List<int[]> program = new ArrayList<>();
  final int[][] inputs = new int[24][8];
  final int[][] plain = new int[24][8];

  boolean on = false;
  Node[] nodes;
  final List<Letter> row = new ArrayList<>();
  int stop;
  int firstWay;
  final List<int[]> switches = new ArrayList<>();
  int[] treeParent;
  int[] treeDepth;
  int[] cluster;
  int[] clusterParent;
  int[] clusterDepth;
  int clusters;
  final Map<String, Integer> chosen = new HashMap<>();
  final int[] sent = new int[3];
  int widest;

  // first part

  void net(int size) {
    if (size < 1 || size > 24) throw new IllegalArgumentException();
    if (on) throw new IllegalStateException();
    n = size;
    links.clear();
    for (int i = 0; i < 24; i++) {
      Arrays.fill(inputs[i], 0);
      Arrays.fill(plain[i], 0);
    }
  }

  int link(int a, int b) {
    node(a);
    node(b);
    if (a == b) throw new IllegalArgumentException();
    if (on || neighbours(a).contains(b)) throw new IllegalStateException();
    if (links.size() == 60) throw new UnsupportedOperationException();
    links.add(new int[] {a, b});
    return links.size() - 1;
  }

  int word(int i, int op, int r, int a, int b) {
    if (i < 0 || i > program.size()) throw new IllegalArgumentException();
    if (on) throw new IllegalStateException();
    if (i == program.size() && program.size() == 64) throw new UnsupportedOperationException();
    int[] w = {op, r, a, b};
    if (i == program.size()) program.add(w);
    else program.set(i, w);
    return program.size();
  }

  /** The built-in programs as the document writes them. */
  static final String[] BUILTIN = {
    "(0 3 1) (8 2 0 3) (14 2 4) (15 4 1) (18 3) (0 0 2) (0 2) (8 2 0 2) (14 2 6) (15 4 5) (16 5)"
        + " (14 5 3) (0 0 1) (19 1) (0 2)",
    "(15 4 4) (16 2) (14 2 2) (17 2) (5 0 0 2) (15 4 1) (18 0)",
    "(15 4 2) (17 2) (2 1 1 2) (19 5) (0 6 1) (7 5 6 5) (14 5 8) (0 2 3) (8 3 1 2) (0 2 2)"
        + " (8 2 1 2) (9 2 2 0) (10 0 3 2) (0 1) (0 6) (15 4 1) (18 0)",
    "(19 5) (0 6 1) (7 5 6 5) (14 5 5) (0 1) (15 4 2) (17 2) (2 1 1 2) (1 0 1) (15 4 1) (18 0)",
    "(0 3) (0 5) (15 4 9) (17 2) (7 6 3 2) (14 6 1) (6 5 5 2) (7 6 2 3) (14 6 3) (3 2 3 2)"
        + " (12 2 2) (10 7 7 2) (19 2) (0 6 1) (7 2 6 2) (8 6 1 3) (9 2 2 6) (20 6) (0 4 1)"
        + " (2 6 6 4) (7 4 5 6) (9 2 2 4) (14 2 3) (0 4 1) (10 7 7 4) (13 1 7) (8 4 1 3) (3 5 3 1)"
        + " (14 4 1) (1 5 6) (15 4 1) (18 5)"
  };

  int builtin(int k) {
    if (k < 0 || k > 4) throw new IllegalArgumentException();
    if (on) throw new IllegalStateException();
    program.clear();
    for (String text : BUILTIN[k].substring(1, BUILTIN[k].length() - 1).split("\\) \\(")) {
      String[] parts = text.split(" ");
      int[] w = new int[4];
      for (int i = 0; i < parts.length; i++) w[i] = Integer.parseInt(parts[i]);
      program.add(w);
    }
    return program.size();
  }

  void cutAt(int size) {
    if (size < 0 || size > program.size()) throw new IllegalArgumentException();
    if (on) throw new IllegalStateException();
    while (program.size() > size) program.remove(program.size() - 1);
  }

  int check() {
    for (int i = 0; i < program.size(); i++) {
      if (wrong(i)) return i;
    }
    return -1;
  }

  boolean within(int each, int i) {
    int[] w = program.get(each);
    return w[0] == 15 && i > each && (long) i <= (long) each + w[2];
  }

  boolean wrong(int i) {
    int[] w = program.get(i);
    int op = w[0];
    if (op < 0 || op > 21) return true;
    if (w[1] < 0 || w[1] > 7) return true;
    List<Integer> useA = Arrays.asList(1, 2, 3, 4, 5, 6, 7, 8, 9, 10, 11, 12, 13);
    List<Integer> useB = Arrays.asList(2, 3, 4, 5, 6, 7, 8, 9, 10, 11);
    if (useA.contains(op) && (w[2] < 0 || w[2] > 7)) return true;
    if (useB.contains(op) && (w[3] < 0 || w[3] > 7)) return true;
    List<Integer> around = new ArrayList<>();
    for (int e = 0; e < program.size(); e++) {
      if (within(e, i)) around.add(e);
    }
    if (op == 14 || op == 15) {
      if (w[2] < 1) return true;
      long last = (long) i + w[2];
      if (last >= program.size()) return true;
      for (int e : around) {
        if (last > (long) e + program.get(e)[2]) return true;
      }
      if (op == 15 && !around.isEmpty()) return true;
      if (op == 14 && around.isEmpty() && last + 1 < program.size()) {
        for (int e = 0; e < program.size(); e++) {
          if (within(e, (int) last + 1)) return true;
        }
      }
    }
    return op >= 16 && op <= 18 && around.isEmpty();
  }

  void input(int node, int r, int v) {
    node(node);
    index(r, 8);
    if (on) throw new IllegalStateException();
    inputs[node][r] = v;
  }

  void lockstep(int rounds) {
    if (rounds < 0 || rounds > 300) throw new IllegalArgumentException();
    if (check() >= 0) throw new IllegalStateException();
    for (int i = 0; i < n; i++) plain[i] = inputs[i].clone();
    List<Map<Integer, Integer>> mail = noMail();
    for (int k = 1; k <= rounds; k++) {
      List<Map<Integer, Integer>> next = noMail();
      for (int i = 0; i < n; i++) {
        Map<Integer, Integer> out = doProgram(i, k, plain[i], mail.get(i));
        for (Map.Entry<Integer, Integer> e : out.entrySet()) next.get(e.getKey()).put(i, e.getValue());
      }
      mail = next;
    }
  }

  private List<Map<Integer, Integer>> noMail() {
    List<Map<Integer, Integer>> mail = new ArrayList<>();
    for (int i = 0; i < n; i++) mail.add(new HashMap<>());
    return mail;
  }

  int plain(int node, int r) {
    node(node);
    index(r, 8);
    return plain[node][r];
  }

  int prepare(int way, int p) {
    if (way < 0 || way > 2 || p < 2 || p > 8) throw new IllegalArgumentException();
    if (on || check() >= 0 || n == 0) throw new IllegalStateException();
    int[] depth = distances();
    for (int i = 0; i < n; i++) {
      if (depth[i] < 0) throw new IllegalStateException();
    }
    on = true;
    stop = 0;
    firstWay = way;
    switches.clear();
    row.clear();
    Arrays.fill(sent, 0);
    widest = 0;
    nodes = new Node[n];
    for (int i = 0; i < n; i++) {
      nodes[i] = new Node();
      nodes[i].registers = inputs[i].clone();
    }
    treeDepth = depth;
    treeParent = new int[n];
    for (int i = 0; i < n; i++) {
      treeParent[i] = -1;
      for (int j : new TreeSet<>(neighbours(i)).descendingSet()) {
        if (depth[j] == depth[i] - 1) treeParent[i] = j;
      }
    }
    makeClusters(p);
    return clusters;
  }

  private int[] distances() {
    int[] depth = new int[n];
    Arrays.fill(depth, -1);
    depth[0] = 0;
    for (int d = 0; d < n; d++) {
      for (int[] l : links) {
        if (depth[l[0]] == d && depth[l[1]] < 0) depth[l[1]] = d + 1;
        if (depth[l[1]] == d && depth[l[0]] < 0) depth[l[0]] = d + 1;
      }
    }
    return depth;
  }

  private void makeClusters(int p) {
    cluster = new int[n];
    clusterParent = new int[n];
    clusterDepth = new int[n];
    Arrays.fill(cluster, -1);
    Arrays.fill(clusterParent, -1);
    clusters = 0;
    for (int leader = 0; leader < n; leader++) {
      if (cluster[leader] >= 0) continue;
      cluster[leader] = clusters;
      int ball = 1;
      int depth = 0;
      while (true) {
        TreeSet<Integer> layer = new TreeSet<>();
        for (int i = 0; i < n; i++) {
          if (cluster[i] != clusters) continue;
          for (int j : neighbours(i)) {
            if (cluster[j] < 0) layer.add(j);
          }
        }
        if (layer.isEmpty() || layer.size() < (p - 1) * ball) break;
        for (int j : layer) {
          int least = 99;
          for (int i : neighbours(j)) {
            if (cluster[i] == clusters && clusterDepth[i] == depth) least = Math.min(least, i);
          }
          clusterParent[j] = least;
        }
        depth++;
        for (int j : layer) {
          cluster[j] = clusters;
          clusterDepth[j] = depth;
        }
        ball += layer.size();
      }
      clusters++;
    }
    chosen.clear();
    for (int l = links.size() - 1; l >= 0; l--) {
      int c = cluster[links.get(l)[0]];
      int d = cluster[links.get(l)[1]];
      if (c != d) chosen.put(Math.min(c, d) + " " + Math.max(c, d), l);
    }
  }

  // second part

  void release() {
    running();
    on = false;
  }

  void stopAt(int round) {
    running();
    if (round > 500 || round < stop) throw new IllegalArgumentException();
    stop = round;
    for (int i = 0; i < n; i++) act(i);
  }

  int letters() {
    return on ? row.size() : 0;
  }

  int letter(int i, int what) {
    index(i, letters());
    index(what, 5);
    return row.get(i).parts[what];
  }

  int deliver(int i) {
    index(i, letters());
    int[] l = row.remove(i).parts;
    Node to = nodes[l[2]];
    if (l[0] == 0) {
      to.mail.computeIfAbsent(l[3], k -> new HashMap<>()).put(l[1], l[4]);
      send(1, l[2], l[1], l[3], 0);
    } else if (l[0] == 1) {
      if (l[3] != to.round) throw new AssertionError("a receipt of another round");
      to.waitingFor--;
    } else {
      if (!to.facts.add(l[0] + " " + l[3] + " " + l[1])) throw new AssertionError("told twice");
    }
    act(l[2]);
    return l[0];
  }

  int deliverAll(int rule, int seed, int most) {
    if (rule < 0 || rule > 2 || most < 0 || most > 2000) throw new IllegalArgumentException();
    running();
    int done = 0;
    while (!row.isEmpty() && done < most) {
      int at = 0;
      if (rule == 1) at = row.size() - 1;
      if (rule == 2) {
        seed = seed * 1103515245 + 12345;
        at = (seed >>> 16) % row.size();
      }
      deliver(at);
      done++;
    }
    return done;
  }

  int switchTo(int way) {
    if (way < 0 || way > 2) throw new IllegalArgumentException();
    running();
    if (switches.size() == 8) throw new UnsupportedOperationException();
    int border = 0;
    for (Node node : nodes) border = Math.max(border, node.round + 1);
    switches.add(new int[] {border, way});
    return border;
  }

  int roundOf(int node) {
    node(node);
    running();
    return nodes[node].round;
  }

  int value(int node, int r) {
    node(node);
    index(r, 8);
    running();
    return nodes[node].registers[r];
  }

  int place(int node, int what) {
    node(node);
    index(what, 6);
    running();
    if (what == 5) return chosenNeighbours(node).size();
    int[][] all = {treeParent, treeDepth, cluster, clusterParent, clusterDepth};
    return all[what][node];
  }

  int chosen(int c, int d) {
    index(c, on ? clusters : 0);
    index(d, on ? clusters : 0);
    return chosen.getOrDefault(Math.min(c, d) + " " + Math.max(c, d), -1);
  }

  int count(int what) {
    index(what, on ? 7 : 0);
    if (what < 3) return sent[what];
    if (what == 3) return widest;
    if (what == 4) return links.size() * 2;
    if (what == 5) return (n - 1) * 2;
    return (n - clusters) * 4 + chosen.size() * 2;
  }

  // the nodes

  private void send(int kind, int from, int to, int round, int value) {
    row.add(new Letter(kind, from, to, round, value));
    sent[Math.min(2, kind)]++;
  }

  private int wayOf(int round) {
    int way = firstWay;
    for (int[] s : switches) {
      if (round >= s[0]) way = s[1];
    }
    return way;
  }

  private void act(int i) {
    while (actOnce(i)) {
      // as long as there is something
    }
  }

  private boolean actOnce(int i) {
    int way = wayOf(nodes[i].round);
    if (way == 0) return actByNodes(i);
    int[] parents = way == 1 ? treeParent : clusterParent;
    List<Integer> children = new ArrayList<>();
    for (int c = 0; c < n; c++) {
      if (parents[c] == i) children.add(c);
    }
    return way == 1 ? actByTree(i, parents[i], children) : actByClusters(i, parents[i], children);
  }

  private boolean came(int i, int kind, List<Integer> from) {
    for (int f : from) {
      if (!nodes[i].facts.contains(kind + " " + nodes[i].round + " " + f)) return false;
    }
    return true;
  }

  private boolean did(int i, String what) {
    return nodes[i].facts.contains("did " + what + " " + nodes[i].round);
  }

  private void nowDid(int i, String what) {
    nodes[i].facts.add("did " + what + " " + nodes[i].round);
  }

  private void tell(int i, int kind, List<Integer> to) {
    for (int t : to) send(kind, i, t, nodes[i].round, 0);
  }

  private boolean safe(int i) {
    return nodes[i].waitingFor == 0 && nodes[i].round < stop;
  }

  private boolean actByNodes(int i) {
    if (!did(i, "safe") && safe(i)) {
      tell(i, 2, neighbours(i));
      nowDid(i, "safe");
      return true;
    }
    if (did(i, "safe") && came(i, 2, neighbours(i))) {
      doRound(i);
      return true;
    }
    return false;
  }

  private boolean actByTree(int i, int parent, List<Integer> children) {
    boolean ready = safe(i) && came(i, 3, children);
    if (parent < 0 ? ready : came(i, 4, Collections.singletonList(parent))) {
      tell(i, 4, children);
      doRound(i);
      return true;
    }
    if (ready && !did(i, "ready")) {
      tell(i, 3, Collections.singletonList(parent));
      nowDid(i, "ready");
      return true;
    }
    return false;
  }

  private boolean actByClusters(int i, int parent, List<Integer> children) {
    boolean ready = safe(i) && came(i, 3, children);
    if (ready && parent >= 0 && !did(i, "ready")) {
      tell(i, 3, Collections.singletonList(parent));
      nowDid(i, "ready");
      return true;
    }
    boolean told = parent < 0 ? ready : came(i, 5, Collections.singletonList(parent));
    if (told && !did(i, "cluster")) {
      tell(i, 5, children);
      tell(i, 6, chosenNeighbours(i));
      nowDid(i, "cluster");
      return true;
    }
    boolean all = did(i, "cluster") && came(i, 6, chosenNeighbours(i)) && came(i, 7, children);
    if (all && parent >= 0 && !did(i, "all")) {
      tell(i, 7, Collections.singletonList(parent));
      nowDid(i, "all");
      return true;
    }
    if (parent < 0 ? all : came(i, 4, Collections.singletonList(parent))) {
      tell(i, 4, children);
      doRound(i);
      return true;
    }
    return false;
  }

  private void doRound(int i) {
    Node node = nodes[i];
    Map<Integer, Integer> mail = node.mail.getOrDefault(node.round, new HashMap<>());
    node.round++;
    Map<Integer, Integer> out = doProgram(i, node.round, node.registers, mail);
    for (int j : neighbours(i)) {
      if (out.containsKey(j)) {
        send(0, i, j, node.round, out.get(j));
        node.waitingFor++;
      }
    }
    for (Node a : nodes) {
      for (Node b : nodes) widest = Math.max(widest, a.round - b.round);
    }
  }

  private Map<Integer, Integer> doProgram(int i, int round, int[] reg, Map<Integer, Integer> mail) {
    Map<Integer, Integer> out = new HashMap<>();
    doWords(0, program.size(), -1, i, round, reg, mail, out);
    return out;
  }

  private void doWords(int from, int to, int other, int i, int round, int[] reg,
      Map<Integer, Integer> mail, Map<Integer, Integer> out) {
    for (int at = from; at < to; at++) {
      int[] w = program.get(at);
      int r = w[1];
      int a = w[2];
      int x = a >= 0 && a < 8 ? reg[a] : 0;
      int y = w[3] >= 0 && w[3] < 8 ? reg[w[3]] : 0;
      switch (w[0]) {
        case 0: reg[r] = a; break;
        case 1: reg[r] = x; break;
        case 2: reg[r] = x + y; break;
        case 3: reg[r] = x - y; break;
        case 4: reg[r] = x * y; break;
        case 5: reg[r] = Math.min(x, y); break;
        case 6: reg[r] = Math.max(x, y); break;
        case 7: reg[r] = x < y ? 1 : 0; break;
        case 8: reg[r] = x == y ? 1 : 0; break;
        case 9: reg[r] = x & y; break;
        case 10: reg[r] = x | y; break;
        case 11: reg[r] = x ^ y; break;
        case 12: reg[r] = 1 << x; break;
        case 13: reg[r] = Integer.numberOfTrailingZeros(~x); break;
        case 14: if (reg[r] == 0) at += a; break;
        case 15:
          List<Integer> all = neighbours(i);
          for (int port = 0; port < all.size(); port++) {
            reg[r] = port;
            doWords(at + 1, at + 1 + a, all.get(port), i, round, reg, mail, out);
          }
          at += a;
          break;
        case 16: reg[r] = mail.containsKey(other) ? 1 : 0; break;
        case 17: reg[r] = mail.getOrDefault(other, 0); break;
        case 18: out.put(other, reg[r]); break;
        case 19: reg[r] = round; break;
        case 20: reg[r] = i; break;
        case 21: reg[r] = neighbours(i).size(); break;
        default: throw new AssertionError("a wrong word is done");
      }
    }
  }

  // small things

  List<Integer> neighbours(int i) {
    List<Integer> found = new ArrayList<>();
    for (int[] l : links) {
      if (l[0] == i) found.add(l[1]);
      if (l[1] == i) found.add(l[0]);
    }
    return found;
  }

  private List<Integer> chosenNeighbours(int i) {
    List<Integer> found = new ArrayList<>();
    for (int l = 0; l < links.size(); l++) {
      int[] ends = links.get(l);
      if (!chosen.containsValue(l)) continue;
      if (ends[0] == i) found.add(ends[1]);
      if (ends[1] == i) found.add(ends[0]);
    }
    return found;
  }

  private void node(int i) {
    if (i < 0 || i >= n) throw new NoSuchElementException();
  }

  private void index(int i, int end) {
    if (i < 0 || i >= end) throw new IndexOutOfBoundsException();
  }

  private void running() {
    if (!on) throw new IllegalStateException();
  }
}
