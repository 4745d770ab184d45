/** Each promise of the document by its number: ordinary inputs, edges, and wrong inputs. */
public final class PromisesTest {
  public static void main(String[] args) {
    Due.test("promise 1", PromisesTest::promise1);
    Due.test("promise 2", PromisesTest::promise2);
    Due.test("promise 3", PromisesTest::promise3);
    Due.test("promise 4", PromisesTest::promise4);
    Due.test("promise 5", PromisesTest::promise5);
    Due.test("promise 6", PromisesTest::promise6);
    Due.test("promise 7", PromisesTest::promise7);
    Due.test("promise 7, skips", PromisesTest::promise7Skips);
    Due.test("promise 8", PromisesTest::promise8);
    Due.test("promise 9", PromisesTest::promise9);
    Due.test("promise 9, words", PromisesTest::promise9Words);
    Due.test("promise 9, each", PromisesTest::promise9Each);
    Due.test("promise 10", PromisesTest::promise10);
    Due.test("promise 11", PromisesTest::promise11);
    Due.test("promise 12", PromisesTest::promise12);
    Due.test("promise 13", PromisesTest::promise13);
    Due.test("promise 14 and 15", PromisesTest::promise14And15);
    Due.test("promise 16, way nodes", PromisesTest::promise16WayNodes);
    Due.test("promise 16, way tree", PromisesTest::promise16WayTree);
    Due.test("promise 16, way clusters", PromisesTest::promise16WayClusters);
    Due.test("promise 16, told ahead", PromisesTest::promise16ToldAhead);
    Due.test("promise 17", PromisesTest::promise17);
    Due.test("promise 18", PromisesTest::promise18);
    Due.test("promise 19", PromisesTest::promise19);
    Due.test("promise 20", PromisesTest::promise20);
    Due.test("promise 21", PromisesTest::promise21);
    Due.test("promise 22", PromisesTest::promise22);
    Due.test("promise 23", PromisesTest::promise23);
    Due.finish();
  }

  private static void promise1() {
    LockstepNet x = new LockstepNet();
    Due.is("no node", Due.NO_NODE, () -> x.plain(0, 0));
    Due.is("no words", Due.ARGUMENT, () -> x.word(1, 0, 0, 0, 0));
    Due.ends("no words to keep", Due.ARGUMENT, () -> x.cutAt(1));
    Due.is("no wrong word", -1, x::check);
    Due.is("no letters", 0, x::letters);
    Due.is("no net to prepare", Due.STATE, () -> x.prepare(0, 2));
    Due.ends("no run", Due.STATE, x::release);
  }

  private static void promise2() {
    LockstepNet x = new LockstepNet();
    for (int n : new int[] {0, -1, 25, Nets.MAX, Nets.MIN}) {
      Due.ends("net " + n, Due.ARGUMENT, () -> x.net(n));
    }
    Due.done("net 24", () -> x.net(24));
    Due.is("node 23", 0, () -> x.plain(23, 0));
    Due.is("node 24", Due.NO_NODE, () -> x.plain(24, 0));
    x.link(0, 1);
    x.input(1, 3, 9);
    x.word(0, 19, 0, 0, 0);
    x.lockstep(2);
    Due.is("input seen", 9, () -> x.plain(1, 3));
    Due.done("net 2", () -> x.net(2));
    Due.is("the plain run is gone", 0, () -> x.plain(1, 3));
    Due.is("the program stays", 1, () -> x.word(0, 19, 0, 0, 0));
    Due.is("no links", Due.STATE, () -> x.prepare(0, 2));
    x.lockstep(1);
    Due.is("inputs are 0", 0, () -> x.plain(1, 3));
    Due.is("links begin anew", 0, () -> x.link(1, 0));
    x.prepare(0, 2);
    Due.ends("net with a run", Due.STATE, () -> x.net(2));
    Due.ends("wrong net with a run", Due.ARGUMENT, () -> x.net(0));
    x.release();
    Due.done("net 1", () -> x.net(1));
  }

  private static void promise3() {
    LockstepNet x = new LockstepNet();
    Due.is("no nodes", Due.NO_NODE, () -> x.link(0, 1));
    x.net(24);
    Due.is("first", 0, () -> x.link(3, 2));
    Due.is("second", 1, () -> x.link(2, 4));
    Due.is("again", Due.STATE, () -> x.link(3, 2));
    Due.is("again the other way round", Due.STATE, () -> x.link(2, 3));
    Due.is("same nodes", Due.ARGUMENT, () -> x.link(5, 5));
    Due.is("same, none there", Due.NO_NODE, () -> x.link(24, 24));
    Due.is("a not there", Due.NO_NODE, () -> x.link(-1, 0));
    Due.is("b not there", Due.NO_NODE, () -> x.link(0, 24));
    Due.is("none changed a thing", 2, () -> x.link(0, 1));
    int made = 3;
    for (int i = 0; i < 24 && made < 60; i++) {
      for (int j = i + 6; j < 24 && made < 60; j++) {
        x.link(i, j);
        made++;
      }
    }
    Due.is("link 61", Due.FULL, () -> x.link(8, 9));
    Due.is("full, but there already", Due.STATE, () -> x.link(0, 1));
    Due.is("full, but the same", Due.ARGUMENT, () -> x.link(8, 8));
    LockstepNet y = Nets.line(2);
    y.prepare(0, 2);
    Due.is("with a run", Due.STATE, () -> y.link(0, 1));
    Due.is("the same with a run", Due.ARGUMENT, () -> y.link(1, 1));
    Due.is("none there with a run", Due.NO_NODE, () -> y.link(0, 2));
  }

  private static void promise4() {
    LockstepNet x = Nets.line(2);
    Due.is("word 0", 1, () -> x.word(0, 0, 0, 5, 0));
    Due.is("word 1", 2, () -> x.word(1, 0, 1, 6, 0));
    Due.is("in its place", 2, () -> x.word(0, 0, 0, 7, 0));
    Due.is("beyond", Due.ARGUMENT, () -> x.word(3, 0, 0, 0, 0));
    Due.is("below", Due.ARGUMENT, () -> x.word(-1, 0, 0, 0, 0));
    x.lockstep(1);
    Due.is("the new word", 7, () -> x.plain(0, 0));
    Due.is("the other word", 6, () -> x.plain(0, 1));
    x.prepare(0, 2);
    Due.is("with a run", Due.STATE, () -> x.word(0, 0, 0, 0, 0));
    Due.is("beyond with a run", Due.ARGUMENT, () -> x.word(3, 0, 0, 0, 0));
    x.release();
    for (int i = 2; i < 64; i++) {
      x.word(i, 0, 0, 0, 0);
    }
    Due.is("word 64", Due.FULL, () -> x.word(64, 0, 0, 0, 0));
    Due.is("word 65", Due.ARGUMENT, () -> x.word(65, 0, 0, 0, 0));
    Due.is("word 63 again", 64, () -> x.word(63, 99, 0, 0, 0));
    Due.is("a wrong word may stand", 63, x::check);
    x.word(63, 0, 0, 0, 0);
    x.prepare(0, 2);
    Due.is("full and with a run", Due.STATE, () -> x.word(64, 0, 0, 0, 0));
  }

  private static void promise5() {
    LockstepNet x = Nets.ring(6);
    int[] sizes = {15, 7, 17, 11, 32};
    for (int k = 0; k < 5; k++) {
      int which = k;
      Due.is("builtin " + k, sizes[k], () -> x.builtin(which));
      Due.is("none is wrong in " + k, -1, x::check);
      Due.ends("words of " + k, Due.ARGUMENT, () -> x.cutAt(sizes[which] + 1));
    }
    Due.is("builtin 5", Due.ARGUMENT, () -> x.builtin(5));
    Due.is("builtin -1", Due.ARGUMENT, () -> x.builtin(-1));
    x.builtin(2);
    for (int node = 0; node < 3; node++) {
      x.input(node, 0, 1);
    }
    x.lockstep(2);
    int[] cells = {0, 1, 0, 0, 0, 0};
    for (int node = 0; node < 6; node++) {
      int i = node;
      Due.is("CELLS " + i, cells[i], () -> x.plain(i, 0));
    }
    x.net(3);
    x.link(0, 1);
    x.link(1, 2);
    x.builtin(3);
    x.input(0, 0, 1);
    x.lockstep(4);
    Due.is("WALKS of length 3 from 0 to 1", 2, () -> x.plain(1, 0));
    Due.is("WALKS of length 3 from 0 to 2", 0, () -> x.plain(2, 0));
    colours();
    x.prepare(0, 2);
    Due.is("with a run", Due.STATE, () -> x.builtin(0));
    Due.is("none with a run", Due.ARGUMENT, () -> x.builtin(5));
  }

  /** Neighbours end with different colours. */
  private static void colours() {
    LockstepNet x = Nets.ring(7);
    x.link(0, 3);
    x.builtin(4);
    x.lockstep(20);
    int[][] links = {{0, 1}, {1, 2}, {2, 3}, {3, 4}, {4, 5}, {5, 6}, {6, 0}, {0, 3}};
    for (int[] link : links) {
      Due.same("COLOURS of " + link[0] + " and " + link[1], true,
          x.plain(link[0], 1) != x.plain(link[1], 1));
    }
  }

  private static void promise6() {
    LockstepNet x = Nets.line(2);
    x.builtin(1);
    Due.done("cut nothing", () -> x.cutAt(7));
    Due.ends("more than there are", Due.ARGUMENT, () -> x.cutAt(8));
    Due.ends("below 0", Due.ARGUMENT, () -> x.cutAt(-1));
    Due.done("cut at 1", () -> x.cutAt(1));
    Due.is("one is left, and wrong", 0, x::check);
    Due.is("the next is word 1", 2, () -> x.word(1, 0, 0, 0, 0));
    x.cutAt(0);
    Due.is("none is left", -1, x::check);
    x.prepare(0, 2);
    Due.ends("with a run", Due.STATE, () -> x.cutAt(0));
    Due.ends("too many with a run", Due.ARGUMENT, () -> x.cutAt(1));
  }

  private static void promise7() {
    Nets.wrongAt("op -1", 0, -1, 0, 0, 0);
    Nets.wrongAt("op 22", 1, 0, 0, 0, 0, 22, 0, 0, 0);
    Nets.wrongAt("SET of any number", -1, 0, 7, Nets.MAX, Nets.MIN);
    Nets.wrongAt("r 8", 0, 0, 8, 0, 0);
    Nets.wrongAt("r -1", 0, 21, -1, 0, 0);
    for (int op = 0; op <= 21; op++) {
      boolean usesA = op >= 1 && op <= 13;
      boolean usesB = op >= 2 && op <= 11;
      if (op < 14 || op > 18) {
        Nets.wrongAt("a of " + op, usesA ? 0 : -1, op, 0, 8, 0);
        Nets.wrongAt("negative a of " + op, usesA ? 0 : -1, op, 0, -1, 0);
        Nets.wrongAt("b of " + op, usesB ? 0 : -1, op, 0, 0, 8);
        Nets.wrongAt("negative b of " + op, usesB ? 0 : -1, op, 0, 0, -1);
        Nets.wrongAt("r of " + op, 0, op, 8, 0, 0);
      } else if (op > 15) {
        Nets.wrongAt("a and b of " + op, -1, 15, 0, 1, 99, op, 7, 99, -9);
        Nets.wrongAt("r of " + op, 1, 15, 0, 1, 0, op, 8, 0, 0);
        Nets.wrongAt(op + " within none", 0, op, 0, 0, 0);
        Nets.wrongAt(op + " behind an EACH", 2, 15, 0, 1, 0, op, 0, 0, 0, op, 0, 0, 0);
      } else {
        Nets.wrongAt("b of " + op, -1, op, 0, 1, 99, 0, 0, 0, 0);
        Nets.wrongAt("r of " + op, 0, op, 8, 1, 0, 0, 0, 0, 0);
        Nets.wrongAt("a 0 of " + op, 0, op, 0, 0, 0, 0, 0, 0, 0);
        Nets.wrongAt("a -1 of " + op, 0, op, 0, -1, 0, 0, 0, 0, 0);
        Nets.wrongAt("a of " + op + " beyond the end", 0, op, 0, 2, 0, 0, 0, 0, 0);
        Nets.wrongAt("greatest a of " + op, 0, op, 0, Nets.MAX, 0, 0, 0, 0, 0);
        Nets.wrongAt("least a of " + op, 0, op, 0, Nets.MIN, 0, 0, 0, 0, 0);
        Nets.wrongAt(op + " at the end", 0, op, 0, 1, 0);
      }
    }
    Nets.wrongAt("EACH within an EACH", 1, 15, 0, 2, 0, 15, 0, 1, 0, 0, 0, 0, 0);
    Nets.wrongAt("EACH behind an EACH", -1, 15, 0, 1, 0, 0, 0, 0, 0, 15, 0, 1, 0, 0, 0, 0, 0);
  }

  private static void promise7Skips() {
    Nets.wrongAt("SKIP up to the end of its EACH", -1, 15, 0, 2, 0, 14, 0, 1, 0, 0, 0, 0, 0);
    Nets.wrongAt("SKIP beyond its EACH", 1, 15, 0, 2, 0, 14, 0, 2, 0, 0, 0, 0, 0, 0, 0, 0, 0);
    Nets.wrongAt("SKIP as the last of its EACH", 1, 15, 0, 1, 0, 14, 0, 1, 0, 0, 0, 0, 0);
    int[] each = {14, 0, 0, 0, 15, 0, 2, 0, 16, 0, 0, 0, 16, 0, 0, 0, 0, 0, 0, 0, 15, 0, 1, 0,
      16, 0, 0, 0};
    int[] due = {0, 0, -1, -1, 0, -1, 0};
    for (int a = 1; a <= 7; a++) {
      int[] parts = each.clone();
      parts[2] = a;
      Nets.wrongAt("SKIP of " + a + " over EACHes", due[a - 1], parts);
    }
    Nets.wrongAt("SKIP to an EACH", -1, 14, 0, 1, 0, 0, 0, 0, 0, 15, 0, 1, 0, 0, 0, 0, 0);
    Nets.wrongAt("SKIP up to the end, over an EACH that is too long", 1, 14, 0, 1, 0, 15, 0, 5, 0);
  }

  private static void promise8() {
    LockstepNet x = new LockstepNet();
    Due.ends("no node", Due.NO_NODE, () -> x.input(0, 0, 0));
    x.net(2);
    x.link(0, 1);
    Due.done("an input", () -> x.input(1, 7, Nets.MIN));
    Due.done("another", () -> x.input(1, 0, 3));
    Due.done("in its place", () -> x.input(1, 0, 4));
    Due.ends("r 8", Due.INDEX, () -> x.input(1, 8, 0));
    Due.ends("r -1", Due.INDEX, () -> x.input(1, -1, 0));
    Due.ends("node and r", Due.NO_NODE, () -> x.input(2, 8, 0));
    Due.ends("node -1", Due.NO_NODE, () -> x.input(-1, 0, 0));
    x.prepare(0, 2);
    Due.is("register 7", Nets.MIN, () -> x.value(1, 7));
    Due.is("register 0", 4, () -> x.value(1, 0));
    Due.is("the other node", 0, () -> x.value(0, 7));
    Due.ends("with a run", Due.STATE, () -> x.input(1, 0, 9));
    Due.ends("r 8 with a run", Due.INDEX, () -> x.input(1, 8, 0));
    Due.ends("no node with a run", Due.NO_NODE, () -> x.input(2, 0, 0));
    Due.is("nothing changed", 4, () -> x.value(1, 0));
  }

  private static void promise9() {
    LockstepNet x = new LockstepNet();
    Due.done("no net", () -> x.lockstep(3));
    x.net(2);
    Nets.words(x, 19, 0, 0, 0, 2, 1, 1, 0);
    x.input(0, 1, 10);
    Due.done("no round", () -> x.lockstep(0));
    Due.is("inputs", 10, () -> x.plain(0, 1));
    Due.is("no word done", 0, () -> x.plain(0, 0));
    Due.done("three rounds", () -> x.lockstep(3));
    Due.is("ROUND", 3, () -> x.plain(0, 0));
    Due.is("1 + 2 + 3", 16, () -> x.plain(0, 1));
    Due.done("from the inputs again", () -> x.lockstep(3));
    Due.is("the same", 16, () -> x.plain(0, 1));
    Due.done("300", () -> x.lockstep(300));
    Due.is("300 rounds", 45160, () -> x.plain(0, 1));
    Due.ends("301", Due.ARGUMENT, () -> x.lockstep(301));
    Due.ends("-1", Due.ARGUMENT, () -> x.lockstep(-1));
    x.word(2, 22, 0, 0, 0);
    Due.ends("a wrong word", Due.STATE, () -> x.lockstep(1));
    Due.ends("a wrong word and rounds", Due.ARGUMENT, () -> x.lockstep(301));
    Due.is("nothing changed", 300, () -> x.plain(0, 0));
    x.cutAt(2);
    x.link(0, 1);
    x.prepare(0, 2);
    Due.done("with a run", () -> x.lockstep(2));
    Due.is("plain with a run", 13, () -> x.plain(0, 1));
    Due.is("the run stays", 10, () -> x.value(0, 1));
  }

  private static void promise9Words() {
    int[][] rows = {
      // op, x, y, due: register 0 of SET 1 x, SET 2 y, op 0 1 2
      {1, 5, 6, 5}, {2, Nets.MAX, 1, Nets.MIN}, {3, Nets.MIN, 1, Nets.MAX},
      {4, 65536, 65537, 65536},
      {5, -1, 1, -1}, {5, 1, -1, -1}, {6, -1, 1, 1}, {6, 3, 2, 3}, {7, -1, 1, 1}, {7, 1, 1, 0},
      {7, 2, 1, 0}, {8, 4, 4, 1}, {8, 4, 5, 0}, {9, 12, 10, 8}, {10, 12, 10, 14}, {11, 12, 10, 6},
      {12, 0, 0, 1}, {12, 31, 0, Nets.MIN}, {12, 33, 0, 2}, {12, -1, 0, Nets.MIN}, {13, 0, 0, 0},
      {13, 11, 0, 2}, {13, Nets.MAX, 0, 31}, {13, -1, 0, 32}, {13, -2, 0, 0}, {19, 9, 9, 1},
      {20, 9, 9, 2}, {21, 9, 9, 1}
    };
    for (int[] row : rows) {
      LockstepNet x = Nets.line(3);
      Nets.words(x, 0, 1, row[1], 0, 0, 2, row[2], 0, row[0], 0, 1, 2);
      x.lockstep(1);
      Due.is("op " + row[0] + " of " + row[1] + " and " + row[2], row[3], () -> x.plain(2, 0));
    }
    LockstepNet x = Nets.line(3);
    Nets.words(x, 0, 0, 5, 0, 14, 0, 2, 0, 0, 1, 1, 0, 0, 2, 1, 0, 14, 7, 2, 0, 0, 3, 1, 0,
        0, 4, 1, 0, 0, 5, 1, 0);
    x.lockstep(1);
    int[] due = {5, 1, 1, 0, 0, 1};
    for (int r = 0; r < 6; r++) {
      int which = r;
      Due.is("SKIP, register " + r, due[r], () -> x.plain(0, which));
    }
  }

  private static void promise9Each() {
    LockstepNet x = new LockstepNet();
    x.net(4);
    x.link(0, 2);
    x.link(1, 0);
    // By its ports 0, 1 (nodes 2, 1) node 0 sends 10, 11 and once more 20, 21 in their place; r is
    // changed within the words, and yet the port stays.
    Nets.words(x, 20, 7, 0, 0, 0, 6, 0, 0, 0, 5, 10, 0, 15, 1, 6, 0, 16, 2, 0, 0, 17, 3, 0, 0,
        2, 4, 1, 5, 18, 4, 0, 0, 2, 4, 4, 5, 18, 4, 0, 0, 2, 6, 6, 3);
    x.word(10, 0, 1, 77, 0);
    x.lockstep(1);
    Due.is("GOT nothing", 0, () -> x.plain(1, 2));
    Due.is("TAKE nothing", 0, () -> x.plain(1, 3));
    Due.is("r behind", 77, () -> x.plain(0, 1));
    x.lockstep(2);
    Due.is("GOT", 1, () -> x.plain(1, 2));
    Due.is("TAKE of port 1 of node 0", 21, () -> x.plain(1, 3));
    Due.is("TAKE of port 0 of node 0", 20, () -> x.plain(2, 3));
    Due.is("r is 77 without ports too", 77, () -> x.plain(3, 1));
    Due.is("no letters without ports", 0, () -> x.plain(3, 4));
    x.net(1);
    x.input(0, 1, 5);
    Nets.words(x, 15, 1, 1, 0, 0, 2, 9, 0);
    x.lockstep(1);
    Due.is("r stays without ports", 5, () -> x.plain(0, 1));
    Due.is("words are not done without ports", 0, () -> x.plain(0, 2));
  }

  private static void promise10() {
    LockstepNet x = new LockstepNet();
    Due.is("no node", Due.NO_NODE, () -> x.plain(0, 0));
    x.net(2);
    x.input(1, 2, 8);
    Due.is("before any", 0, () -> x.plain(1, 2));
    x.lockstep(0);
    Due.is("behind one", 8, () -> x.plain(1, 2));
    x.input(1, 2, 9);
    x.link(0, 1);
    Due.is("still the latest one", 8, () -> x.plain(1, 2));
    Due.is("r 8", Due.INDEX, () -> x.plain(1, 8));
    Due.is("r -1", Due.INDEX, () -> x.plain(1, -1));
    Due.is("node 2", Due.NO_NODE, () -> x.plain(2, 8));
    Due.is("node -1", Due.NO_NODE, () -> x.plain(-1, 0));
    Due.answer(() -> {
      x.net(25);
      return "done";
    });
    Due.is("no other net", 8, () -> x.plain(1, 2));
    x.net(2);
    Due.is("another net", 0, () -> x.plain(1, 2));
  }

  private static void promise11() {
    LockstepNet x = new LockstepNet();
    Due.is("no net", Due.STATE, () -> x.prepare(0, 2));
    Due.is("no net, way 3", Due.ARGUMENT, () -> x.prepare(3, 2));
    x.net(3);
    x.link(1, 2);
    Due.is("not all are reached", Due.STATE, () -> x.prepare(0, 2));
    x.link(2, 0);
    x.word(0, 18, 0, 0, 0);
    Due.is("a wrong word", Due.STATE, () -> x.prepare(0, 2));
    x.cutAt(0);
    for (int way : new int[] {-1, 3, Nets.MAX, Nets.MIN}) {
      Due.is("way " + way, Due.ARGUMENT, () -> x.prepare(way, 2));
    }
    for (int p : new int[] {1, 9, Nets.MAX, Nets.MIN}) {
      Due.is("p " + p, Due.ARGUMENT, () -> x.prepare(0, p));
    }
    Due.is("node 0 with 2 makes one, node 1 another", 2, () -> x.prepare(0, 2));
    Due.is("all in round 0", 0, () -> x.roundOf(2));
    Due.is("no letters", 0, x::letters);
    Due.is("a run is prepared", Due.STATE, () -> x.prepare(0, 2));
    Due.is("p 1 with a run", Due.ARGUMENT, () -> x.prepare(0, 1));
    x.stopAt(1);
    x.deliver(0);
    x.switchTo(1);
    x.release();
    Due.is("p 8", 3, () -> x.prepare(2, 8));
    Due.is("a new run has no letters", 0, x::letters);
    Due.is("nor sent any", 0, () -> x.count(2));
    Due.done("its STOP is 0", () -> x.stopAt(0));
    Due.is("and holds", 0, x::letters);
    x.release();
    x.net(8);
    for (int i = 1; i < 8; i++) {
      x.link(0, i);
    }
    Due.is("a star for p 8 is one cluster", 1, () -> x.prepare(1, 8));
  }

  private static void promise12() {
    LockstepNet x = Nets.line(2);
    Due.ends("no run", Due.STATE, x::release);
    x.prepare(0, 2);
    x.stopAt(1);
    Due.done("a run", x::release);
    Due.ends("no run any more", Due.STATE, x::release);
    Due.is("no letters", 0, x::letters);
    Due.is("no letter", Due.INDEX, () -> x.letter(0, 0));
    Due.is("none to deliver", Due.INDEX, () -> x.deliver(0));
    Due.is("no round", Due.STATE, () -> x.roundOf(0));
    Due.done("the first part again", () -> x.input(0, 0, 1));
  }

  private static void promise13() {
    LockstepNet x = Nets.line(2);
    Due.ends("no run", Due.STATE, () -> x.stopAt(1));
    Due.ends("no run, 501", Due.STATE, () -> x.stopAt(501));
    x.prepare(0, 2);
    Due.ends("501", Due.ARGUMENT, () -> x.stopAt(501));
    Due.ends("-1", Due.ARGUMENT, () -> x.stopAt(-1));
    Due.done("0", () -> x.stopAt(0));
    Due.is("nothing goes at STOP", 0, x::letters);
    Due.done("2", () -> x.stopAt(2));
    Nets.row(x, "2 0 1 0 0", "2 1 0 0 0");
    Due.ends("1", Due.ARGUMENT, () -> x.stopAt(1));
    Due.done("2 again", () -> x.stopAt(2));
    Due.is("nothing more goes", 2, x::letters);
    x.deliverAll(0, 0, 2000);
    Due.is("node 0 stops at 2", 2, () -> x.roundOf(0));
    Due.is("node 1 stops at 2", 2, () -> x.roundOf(1));
    Due.done("500", () -> x.stopAt(500));
    Due.is("two letters for each round", 996, () -> x.deliverAll(0, 0, 2000));
    Due.is("round 500", 500, () -> x.roundOf(1));
    LockstepNet y = new LockstepNet();
    y.net(1);
    for (int way = 0; way < 3; way++) {
      int which = way;
      y.prepare(way, 2);
      y.stopAt(500);
      Due.is("one node goes alone by way " + way, 500, () -> y.roundOf(0));
      Due.is("without letters by way " + way, 0, () -> y.count(2));
      y.release();
      Due.is("again", 1, () -> y.prepare(which, 8));
      y.release();
    }
  }

  private static void promise14And15() {
    LockstepNet x = Nets.line(3);
    Due.is("letters without a run", 0, x::letters);
    Due.is("letter without a run", Due.INDEX, () -> x.letter(0, 0));
    x.builtin(1);
    x.input(1, 0, -5);
    x.prepare(0, 2);
    Due.is("none yet", 0, x::letters);
    Due.is("letter 0 of none", Due.INDEX, () -> x.letter(0, 0));
    x.stopAt(2);
    Nets.row(x, "2 0 1 0 0", "2 1 0 0 0", "2 1 2 0 0", "2 2 1 0 0");
    Due.is("letter 4", Due.INDEX, () -> x.letter(4, 0));
    Due.is("letter -1", Due.INDEX, () -> x.letter(-1, 0));
    Due.is("part 5", Due.INDEX, () -> x.letter(0, 5));
    Due.is("part -1", Due.INDEX, () -> x.letter(0, -1));
    x.deliver(3);
    x.deliver(0);
    Nets.row(x, "2 1 0 0 0", "2 1 2 0 0", "0 1 0 1 -5", "0 1 2 1 -5");
    x.release();
    Due.is("letters behind a run", 0, x::letters);
    Due.is("letter behind a run", Due.INDEX, () -> x.letter(0, 0));
  }

  private static void promise16WayNodes() {
    LockstepNet x = Nets.line(2);
    Due.is("no run", Due.INDEX, () -> x.deliver(0));
    x.builtin(1);
    x.input(0, 0, 3);
    x.input(1, 0, 4);
    x.prepare(0, 2);
    Due.is("none to deliver", Due.INDEX, () -> x.deliver(0));
    x.stopAt(2);
    Due.is("letter 2", Due.INDEX, () -> x.deliver(2));
    Due.is("letter -1", Due.INDEX, () -> x.deliver(-1));
    Nets.row(x, "2 0 1 0 0", "2 1 0 0 0");
    Due.is("SAFE", 2, () -> x.deliver(0));
    Nets.row(x, "2 1 0 0 0", "0 1 0 1 4");
    Due.is("a letter ahead of SAFE", 0, () -> x.deliver(1));
    Nets.row(x, "2 1 0 0 0", "1 0 1 1 0");
    Due.is("node 0 still waits", 0, () -> x.roundOf(0));
    Due.is("a receipt", 1, () -> x.deliver(1));
    Nets.row(x, "2 1 0 0 0", "2 1 0 1 0");
    Due.is("SAFE of round 1 ahead of that of round 0", 2, () -> x.deliver(1));
    Due.is("node 0 still waits", 0, () -> x.roundOf(0));
    x.deliver(0);
    Nets.row(x, "0 0 1 1 3");
    Due.is("node 0", 1, () -> x.roundOf(0));
    Due.is("its letter is for round 2", 3, () -> x.value(0, 0));
    x.deliver(0);
    Nets.row(x, "1 1 0 1 0");
    x.deliver(0);
    Nets.row(x, "2 0 1 1 0", "0 0 1 2 3");
    Due.is("node 0 went on with what it was told before", 2, () -> x.roundOf(0));
    x.deliver(1);
    Due.is("node 1 has two rounds' letters, and uses the first", 0, () -> x.deliver(0) - 2);
    Due.is("node 1", 2, () -> x.roundOf(1));
    Due.is("its least", 3, () -> x.value(1, 0));
    Nets.row(x, "1 1 0 2 0", "0 1 0 2 3");
    x.deliver(0);
    Due.is("at STOP no SAFE goes", 1, x::letters);
  }

  private static void promise16WayTree() {
    LockstepNet x = new LockstepNet();
    x.net(4);
    x.link(0, 3);
    x.link(0, 1);
    x.link(1, 2);
    Nets.words(x, 15, 0, 1, 0, 18, 0, 0, 0);
    x.prepare(1, 2);
    x.stopAt(1);
    Nets.row(x, "3 2 1 0 0", "3 3 0 0 0");
    Due.is("READY", 3, () -> x.deliver(1));
    Due.is("the root waits for node 1", 0, () -> x.roundOf(0));
    x.deliver(0);
    Nets.row(x, "3 1 0 0 0");
    x.deliver(0);
    Nets.row(x, "4 0 1 0 0", "4 0 3 0 0", "0 0 3 1 0", "0 0 1 1 1");
    Due.is("the root is ahead", 1, () -> x.roundOf(0));
    Due.is("GO", 4, () -> x.deliver(0));
    Nets.row(x, "4 0 3 0 0", "0 0 3 1 0", "0 0 1 1 1", "4 1 2 0 0", "0 1 0 1 0", "0 1 2 1 1");
    x.deliver(5);
    Nets.letterIs(x, 5, "1 2 1 1 0");
    Due.is("node 2 is behind", 0, () -> x.roundOf(2));
    x.deliverAll(1, 0, 2000);
    Due.is("node 2", 1, () -> x.roundOf(2));
    Due.is("node 3", 1, () -> x.roundOf(3));
    x.stopAt(2);
    Due.is("all are safe", 2, x::letters);
    x.deliverAll(1, 0, 2000);
    Due.is("node 3 in round 2", 2, () -> x.roundOf(3));
  }

  private static void promise16WayClusters() {
    LockstepNet x = Nets.ring(6);
    x.link(1, 4);
    Nets.words(x, 15, 0, 1, 0, 18, 0, 0, 0);
    Due.is("clusters 0 1 5, 2 3 and 4", 3, () -> x.prepare(2, 2));
    x.stopAt(1);
    Nets.row(x, "3 1 0 0 0", "3 3 2 0 0", "6 4 3 0 0", "6 4 5 0 0", "3 5 0 0 0");
    x.deliver(0);
    Due.is("the leader waits for node 5", 4, x::letters);
    x.deliver(3);
    Nets.row(x, "3 3 2 0 0", "6 4 3 0 0", "6 4 5 0 0", "5 0 1 0 0", "5 0 5 0 0");
    Due.is("CLUSTER", 5, () -> x.deliver(4));
    Nets.row(x, "3 3 2 0 0", "6 4 3 0 0", "6 4 5 0 0", "5 0 1 0 0", "6 5 4 0 0");
    Due.is("NEIGHBOUR", 6, () -> x.deliver(2));
    Nets.row(x, "3 3 2 0 0", "6 4 3 0 0", "5 0 1 0 0", "6 5 4 0 0", "7 5 0 0 0");
    Due.is("ALL", 7, () -> x.deliver(4));
    Due.is("no GO without ALL of node 1", 4, x::letters);
    x.deliver(2);
    Nets.row(x, "3 3 2 0 0", "6 4 3 0 0", "6 5 4 0 0", "6 1 2 0 0");
    x.deliver(0);
    Nets.row(x, "6 4 3 0 0", "6 5 4 0 0", "6 1 2 0 0", "5 2 3 0 0", "6 2 1 0 0");
    x.deliver(4);
    Nets.letterIs(x, 4, "7 1 0 0 0");
    x.deliver(4);
    Nets.row(x, "6 4 3 0 0", "6 5 4 0 0", "6 1 2 0 0", "5 2 3 0 0", "4 0 1 0 0", "4 0 5 0 0",
        "0 0 1 1 0", "0 0 5 1 1");
    Due.is("the leader has gone", 1, () -> x.roundOf(0));
    Due.is("GO", 4, () -> x.deliver(5));
    Due.is("node 5 has gone", 1, () -> x.roundOf(5));
    Due.is("node 1 has not", 0, () -> x.roundOf(1));
    Nets.letterIs(x, 7, "0 5 4 1 0");
    Nets.letterIs(x, 8, "0 5 0 1 1");
    x.deliverAll(0, 0, 2000);
    for (int i = 0; i < 6; i++) {
      int node = i;
      Due.is("node " + i, 1, () -> x.roundOf(node));
    }
    Due.is("others", x.count(6), () -> x.count(2));
  }

  /** What comes for the next round is kept for it, and not taken for the present one. */
  private static void promise16ToldAhead() {
    LockstepNet x = Nets.line(3);
    // Node 1 alone sends, in each round its number.
    Nets.words(x, 19, 1, 0, 0, 0, 3, 0, 0, 15, 0, 2, 0, 17, 2, 0, 0, 2, 3, 3, 2, 20, 4, 0, 0,
        14, 4, 2, 0, 15, 0, 1, 0, 18, 1, 0, 0);
    x.prepare(0, 2);
    x.stopAt(3);
    for (int i = 0; i < 400 && x.letters() > 0; i++) {
      int at = x.letters() - 1;
      // All to node 0 waits as long as there is something else.
      for (int j = 0; j < x.letters(); j++) {
        if (x.letter(j, 2) != 0) {
          at = j;
        }
      }
      x.deliver(at);
      int sum = x.value(0, 3);
      int round = x.roundOf(0);
      Due.same("of round " + round, round >= 2 ? round - 1 : 0, sum);
    }
    Due.is("node 0", 3, () -> x.roundOf(0));
    Due.is("node 2", 3, () -> x.roundOf(2));
  }

  private static void promise17() {
    LockstepNet x = Nets.line(3);
    Due.is("no run", Due.STATE, () -> x.deliverAll(0, 0, 1));
    Due.is("no run, rule 3", Due.ARGUMENT, () -> x.deliverAll(3, 0, 1));
    x.prepare(0, 2);
    Due.is("no letters", 0, () -> x.deliverAll(0, 0, 2000));
    x.stopAt(1);
    for (int rule : new int[] {-1, 3, Nets.MAX, Nets.MIN}) {
      Due.is("rule " + rule, Due.ARGUMENT, () -> x.deliverAll(rule, 0, 1));
    }
    for (int most : new int[] {-1, 2001, Nets.MAX, Nets.MIN}) {
      Due.is("most " + most, Due.ARGUMENT, () -> x.deliverAll(0, 0, most));
    }
    Due.is("most 0", 0, () -> x.deliverAll(0, 0, 0));
    Nets.row(x, "2 0 1 0 0", "2 1 0 0 0", "2 1 2 0 0", "2 2 1 0 0");
    Due.is("the first", 1, () -> x.deliverAll(0, 7, 1));
    Nets.row(x, "2 1 0 0 0", "2 1 2 0 0", "2 2 1 0 0");
    Due.is("the last", 1, () -> x.deliverAll(1, 7, 1));
    Nets.row(x, "2 1 0 0 0", "2 1 2 0 0");
    // 1 * 1103515245 + 12345 = 1103527590; moved right by 16 it is 16838, modulo 2 it is 0.
    Due.is("by seed 1", 1, () -> x.deliverAll(2, 1, 1));
    Nets.row(x, "2 1 2 0 0");
    Due.is("all", 1, () -> x.deliverAll(2, 1, 2000));
    x.release();
    x.prepare(0, 2);
    x.stopAt(1);
    // -1 becomes -1103502900; moved right by 16, with zeros, it is 48697, modulo 4 it is 1. Then
    // it is 4409, modulo 3 it is 2.
    Due.is("by seed -1", 2, () -> x.deliverAll(2, -1, 2));
    Nets.row(x, "2 0 1 0 0", "2 1 2 0 0");
  }

  private static void promise18() {
    LockstepNet x = Nets.line(3);
    Due.is("no run", Due.STATE, () -> x.switchTo(0));
    Due.is("no run, way 3", Due.ARGUMENT, () -> x.switchTo(3));
    x.prepare(0, 2);
    x.stopAt(5);
    Due.is("way -1", Due.ARGUMENT, () -> x.switchTo(-1));
    Due.is("way 3", Due.ARGUMENT, () -> x.switchTo(3));
    Due.is("border 1", 1, () -> x.switchTo(2));
    Due.is("the later one counts", 1, () -> x.switchTo(1));
    Nets.row(x, "2 0 1 0 0", "2 1 0 0 0", "2 1 2 0 0", "2 2 1 0 0");
    x.deliver(1);
    Due.is("node 0 is in round 1", 1, () -> x.roundOf(0));
    Due.is("above the greatest round", 2, () -> x.switchTo(0));
    x.deliver(1);
    Nets.row(x, "2 0 1 0 0", "2 2 1 0 0", "3 2 1 1 0");
    x.deliver(2);
    Due.is("READY of round 1 stays for then", 2, x::letters);
    x.deliver(0);
    x.deliver(0);
    Nets.row(x, "3 1 0 1 0");
    x.deliver(0);
    Due.is("node 0 by way 0 again", 2, () -> x.roundOf(0));
    Nets.row(x, "4 0 1 1 0", "2 0 1 2 0");
    x.deliver(1);
    x.deliver(0);
    Nets.row(x, "4 1 2 1 0", "2 1 0 2 0", "2 1 2 2 0");
    for (int i = 4; i <= 8; i++) {
      Due.is("switch " + i, 3, () -> x.switchTo(2));
    }
    Due.is("switch 9", Due.FULL, () -> x.switchTo(2));
    Due.is("switch 9, way 3", Due.ARGUMENT, () -> x.switchTo(3));
    x.deliverAll(2, 5, 2000);
    Due.is("node 2", 5, () -> x.roundOf(2));
    Due.is("others", 4 + 4 + 4 + 2 * x.count(6), () -> x.count(2));
    x.release();
    x.prepare(1, 2);
    Due.is("a new run", 1, () -> x.switchTo(2));
    x.stopAt(1);
    Nets.row(x, "3 2 1 0 0");
  }

  private static void promise19() {
    LockstepNet x = Nets.line(2);
    Due.is("no node", Due.NO_NODE, () -> x.roundOf(2));
    Due.is("no run", Due.STATE, () -> x.roundOf(1));
    x.prepare(0, 2);
    Due.is("round 0", 0, () -> x.roundOf(1));
    Due.is("node 2", Due.NO_NODE, () -> x.roundOf(2));
    Due.is("node -1", Due.NO_NODE, () -> x.roundOf(-1));
    x.stopAt(3);
    x.deliver(0);
    Due.is("node 1 is ahead", 1, () -> x.roundOf(1));
    Due.is("node 0 is not", 0, () -> x.roundOf(0));
  }

  private static void promise20() {
    LockstepNet x = Nets.line(2);
    x.word(0, 19, 3, 0, 0);
    x.input(1, 3, 50);
    Due.is("no node", Due.NO_NODE, () -> x.value(2, 8));
    Due.is("r 8", Due.INDEX, () -> x.value(1, 8));
    Due.is("r -1", Due.INDEX, () -> x.value(1, -1));
    Due.is("no run", Due.STATE, () -> x.value(1, 3));
    x.prepare(0, 2);
    Due.is("the input", 50, () -> x.value(1, 3));
    x.stopAt(2);
    x.deliver(0);
    Due.is("round 1", 1, () -> x.value(1, 3));
    Due.is("node 0", 0, () -> x.value(0, 3));
    x.deliverAll(0, 0, 2000);
    Due.is("round 2", 2, () -> x.value(1, 3));
    Due.is("r 8 with a run", Due.INDEX, () -> x.value(1, 8));
    Due.is("node 2 with a run", Due.NO_NODE, () -> x.value(2, 3));
  }

  private static void promise21() {
    LockstepNet x = new LockstepNet();
    x.net(7);
    int[][] links = {{0, 5}, {5, 3}, {0, 2}, {2, 3}, {3, 1}, {1, 4}, {4, 6}, {6, 1}, {6, 2}};
    for (int[] link : links) {
      x.link(link[0], link[1]);
    }
    Due.is("no node", Due.NO_NODE, () -> x.place(7, 6));
    Due.is("another what", Due.INDEX, () -> x.place(6, 6));
    Due.is("no run", Due.STATE, () -> x.place(6, 5));
    // Cluster 0: 0, then 2 and 5 (two of one); the next layer 3, 6 is less than three. Cluster 1:
    // 1, then 3, 4, 6.
    Due.is("clusters", 2, () -> x.prepare(0, 2));
    Nets.placeIs(x, 0, -1, 0, 0, -1, 0, 0);
    Nets.placeIs(x, 1, 3, 3, 1, -1, 0, 0);
    Nets.placeIs(x, 2, 0, 1, 0, 0, 1, 0);
    Nets.placeIs(x, 3, 2, 2, 1, 1, 1, 1);
    Nets.placeIs(x, 4, 6, 3, 1, 1, 1, 0);
    Nets.placeIs(x, 5, 0, 1, 0, 0, 1, 1);
    Nets.placeIs(x, 6, 2, 2, 1, 1, 1, 0);
    Due.is("what 6", Due.INDEX, () -> x.place(6, 6));
    Due.is("what -1", Due.INDEX, () -> x.place(6, -1));
    Due.is("node 7", Due.NO_NODE, () -> x.place(7, 0));
    Due.is("node -1", Due.NO_NODE, () -> x.place(-1, 0));
    x.release();
    // For p 3: 0 with 2 and 5 (two, twice one), then 1 with 3, 4, 6.
    Due.is("for p 3", 2, () -> x.prepare(0, 3));
    x.release();
    // For p 4: node 0 alone (two are less than three); 1 with 3, 4, 6; 2; 5.
    Due.is("for p 4", 4, () -> x.prepare(0, 4));
    Nets.placeIs(x, 0, -1, 0, 0, -1, 0, 2);
    Nets.placeIs(x, 2, 0, 1, 2, -1, 0, 2);
    Nets.placeIs(x, 5, 0, 1, 3, -1, 0, 2);
    Nets.placeIs(x, 3, 2, 2, 1, 1, 1, 2);
    layers();
  }

  /** A ball of more than one layer, whose nodes have several neighbours in the layer before. */
  private static void layers() {
    LockstepNet x = new LockstepNet();
    x.net(8);
    int[][] links = {{0, 7}, {0, 6}, {7, 1}, {6, 1}, {7, 2}, {6, 3}, {1, 4}, {4, 5}};
    for (int[] link : links) {
      x.link(link[0], link[1]);
    }
    Due.is("clusters", 2, () -> x.prepare(2, 2));
    Nets.placeIs(x, 1, 6, 2, 0, 6, 2, 1);
    Nets.placeIs(x, 2, 7, 2, 0, 7, 2, 0);
    Nets.placeIs(x, 3, 6, 2, 0, 6, 2, 0);
    Nets.placeIs(x, 4, 1, 3, 1, -1, 0, 1);
    Nets.placeIs(x, 5, 4, 4, 1, 4, 1, 0);
  }

  private static void promise22() {
    LockstepNet x = Nets.ring(6);
    x.link(1, 4);
    Due.is("no run", Due.INDEX, () -> x.chosen(0, 0));
    Due.is("clusters 0 1 5, 2 3 and 4", 3, () -> x.prepare(0, 2));
    int[][] due = {{-1, 1, 4}, {1, -1, 3}, {4, 3, -1}};
    for (int c = 0; c < 3; c++) {
      for (int d = 0; d < 3; d++) {
        int from = c;
        int to = d;
        Due.is("chosen " + c + " " + d, due[c][d], () -> x.chosen(from, to));
      }
    }
    Due.is("cluster 3", Due.INDEX, () -> x.chosen(0, 3));
    Due.is("cluster 3 first", Due.INDEX, () -> x.chosen(3, 0));
    Due.is("cluster -1", Due.INDEX, () -> x.chosen(-1, 0));
    Due.is("cluster -1 behind", Due.INDEX, () -> x.chosen(0, -1));
    x.release();
    Due.is("behind a run", Due.INDEX, () -> x.chosen(0, 0));
    LockstepNet y = Nets.line(6);
    Due.is("pairs", 3, () -> y.prepare(0, 2));
    Due.is("none between 0 and 2", -1, () -> y.chosen(0, 2));
    Due.is("one between 1 and 2", 3, () -> y.chosen(2, 1));
  }

  private static void promise23() {
    LockstepNet x = Nets.line(4);
    Due.is("no run", Due.INDEX, () -> x.count(0));
    x.builtin(1);
    x.prepare(0, 2);
    int[] first = {0, 0, 0, 0, 6, 6, 10};
    for (int what = 0; what < 7; what++) {
      int which = what;
      Due.is("count " + what, first[what], () -> x.count(which));
    }
    Due.is("count 7", Due.INDEX, () -> x.count(7));
    Due.is("count -1", Due.INDEX, () -> x.count(-1));
    x.stopAt(4);
    Due.is("SAFE of round 0", 6, () -> x.count(2));
    Due.is("no program's letter", 0, () -> x.count(0));
    x.deliver(1);
    Due.is("one of round 1", 1, () -> x.count(0));
    Due.is("one ahead", 1, () -> x.count(3));
    deliverToNode3Last(x);
    // Node 2 gets to round 1 and is not safe there without node 3's receipt: node 0 gets to 2.
    int[] last = {24, 24, 24, 2, 6, 6, 10};
    for (int what = 0; what < 7; what++) {
      int which = what;
      Due.is("count " + what + " at the end", last[what], () -> x.count(which));
    }
    x.release();
    Due.is("behind a run", Due.INDEX, () -> x.count(3));
    x.prepare(1, 8);
    Due.is("for p 8 all are leaders", 6, () -> x.count(6));
    Due.is("a new run", 0, () -> x.count(3));
    Due.is("sent nothing", 0, () -> x.count(0));
    LockstepNet y = Nets.line(4);
    y.prepare(0, 2);
    y.stopAt(4);
    deliverToNode3Last(y);
    Due.is("without program's letters each node is one ahead of the next", 3, () -> y.count(3));
  }

  /** What goes to node 3 waits as long as there is something else: node 0 gets far ahead. */
  private static void deliverToNode3Last(LockstepNet x) {
    for (int there = x.letters(); there > 0; there = x.letters()) {
      int at = 0;
      while (at < there && x.letter(at, 2) == 3) {
        at++;
      }
      x.deliver(at == there ? 0 : at);
    }
  }
}
