/** Nets, programs and looks at the letters under way that several tests use. */
final class Nets {
  static final int MAX = Integer.MAX_VALUE;
  static final int MIN = Integer.MIN_VALUE;

  /** Each node sends the round's number by all its ports. */
  static final int[] TALK = {19, 1, 0, 0, 15, 0, 1, 0, 18, 1, 0, 0};

  private Nets() {}

  static LockstepNet of(int n, int[][] links) {
    LockstepNet x = new LockstepNet();
    x.net(n);
    for (int[] link : links) {
      x.link(link[0], link[1]);
    }
    return x;
  }

  static LockstepNet line(int n) {
    LockstepNet x = new LockstepNet();
    x.net(n);
    for (int i = 1; i < n; i++) {
      x.link(i - 1, i);
    }
    return x;
  }

  static LockstepNet ring(int n) {
    LockstepNet x = line(n);
    x.link(n - 1, 0);
    return x;
  }

  /** Node 0 is next to all others. */
  static LockstepNet star(int n) {
    LockstepNet x = new LockstepNet();
    x.net(n);
    for (int i = 1; i < n; i++) {
      x.link(0, i);
    }
    return x;
  }

  /** As many nodes and links as there may be: each node is next to the two or three behind it. */
  static LockstepNet full() {
    LockstepNet x = new LockstepNet();
    x.net(24);
    for (int i = 0; i < 24; i++) {
      x.link(i, (i + 1) % 24);
      x.link(i, (i + 2) % 24);
    }
    for (int i = 0; i < 12; i++) {
      x.link(i, i + 12);
    }
    return x;
  }

  static void words(LockstepNet x, int... parts) {
    x.cutAt(0);
    for (int i = 0; i * 4 < parts.length; i++) {
      x.word(i, parts[i * 4], parts[i * 4 + 1], parts[i * 4 + 2], parts[i * 4 + 3]);
    }
  }

  /** What check answers for a program; of each word op, r, a, b. */
  static void wrongAt(String what, int want, int... parts) {
    LockstepNet x = new LockstepNet();
    words(x, parts);
    Due.is("check: " + what, want, x::check);
  }

  /** Letter i under way as "kind from to round value". */
  static String letter(LockstepNet x, int i) {
    StringBuilder text = new StringBuilder();
    for (int what = 0; what < 5; what++) {
      int part = what;
      text.append(what == 0 ? "" : " ").append(Due.answer(() -> x.letter(i, part)));
    }
    return text.toString();
  }

  static void letterIs(LockstepNet x, int i, String want) {
    Due.same("letter " + i, want, letter(x, i));
  }

  static void row(LockstepNet x, String... want) {
    Due.is("letters", want.length, x::letters);
    for (int i = 0; i < want.length; i++) {
      letterIs(x, i, want[i]);
    }
  }

  static void placeIs(LockstepNet x, int node, int... want) {
    for (int what = 0; what < want.length; what++) {
      int which = what;
      Due.is("place " + node + " " + what, want[what], () -> x.place(node, which));
    }
  }

  /** The latest rounds of all nodes. */
  static void roundsAre(LockstepNet x, int... want) {
    for (int i = 0; i < want.length; i++) {
      int node = i;
      Due.is("roundOf " + node, want[i], () -> x.roundOf(node));
    }
  }

  /** Delivers the first letter "kind from to round value" under way that begins so. */
  static void deliver(LockstepNet x, String begin) {
    int there = x.letters();
    for (int i = 0; i < there; i++) {
      if ((letter(x, i) + " ").startsWith(begin + " ")) {
        x.deliver(i);
        return;
      }
    }
    Due.same("a letter " + begin, "under way", "not under way");
  }
}
