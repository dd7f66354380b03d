import java.util.ArrayList;
import java.util.List;
import java.util.Random;

/** Long runs of calls, the same ones each time, on the class and on the model: all answers are the same. */
public final class ModelTest {
  private static final int RUNS = 1500, CALLS = 512;
  private static final Checks CHECKS = new Checks("ModelTest");

  private final Random random;
  private final ClearingGates x = new ClearingGates();
  private final Model model = new Model();
  private final List<Integer> pending = new ArrayList<>();

  private ModelTest(long seed) {
    random = new Random(seed);
  }

  public static void main(String[] args) {
    for (int run = 0; run < RUNS; run++) {
      ModelTest test = new ModelTest(run);
      for (int call = 0; call < CALLS; call++) {
        test.step("run " + run + " call " + call + ": ");
      }
    }
    CHECKS.end();
  }

  private int below(int n) {
    return random.nextInt(n);
  }

  /** Mostly 0 .. most, seldom just outside or far out. */
  private int near(int most) {
    int odd = below(60);
    if (odd == 0) {
      return -1;
    }
    if (odd == 1) {
      return most + 1;
    }
    if (odd == 2) {
      return random.nextInt();
    }
    return odd < 8 ? most : below(most + 1);
  }

  private int who() {
    return below(4) == 0 ? near(7) : below(Math.max(1, model.count(0)));
  }

  private int which() {
    return below(8) == 0 ? near(3) : below(Math.max(1, model.count(1)));
  }

  private int money() {
    int[] some = {0, 1, 10, 50, 100, 200, 500, 1000, 12345, 999999990, 1000000000};
    return below(10) == 0 ? near(1000000000) : some[below(some.length)];
  }

  private void step(String at) {
    if (!pending.isEmpty()) {
      feed(at);
      return;
    }
    int sort = below(100);
    if (sort < 18) {
      accounts(at);
    } else if (sort < 42) {
      programs(at);
    } else if (sort < 60) {
      thoughts(at);
    } else if (sort < 80) {
      debts(at);
    } else if (sort < 92) {
      sheets(at);
    } else {
      look(at);
    }
  }

  private void accounts(String at) {
    int a = who();
    int what;
    int v;
    switch (below(4)) {
      case 0 -> {
        what = near(4);
        v = money();
        CHECKS.due(at + "account " + what + " " + v, x.account(what, v), model.account(what, v));
      }
      case 1 -> {
        what = near(1);
        v = what == 1 ? near(below(2) == 0 ? 40 : 9999) : money();
        CHECKS.due(at + "set " + a + " " + what + " " + v, x.set(a, what, v), model.set(a, what, v));
      }
      case 2 -> {
        boolean is = below(4) != 0;
        CHECKS.due(at + "gate " + a + " " + is, x.gate(a, is), model.gate(a, is));
      }
      default -> {
        what = near(4);
        CHECKS.due(at + "taken " + a + " " + what, x.taken(a, what), model.taken(a, what));
      }
    }
  }

  private void programs(String at) {
    int p = which();
    if (below(3) == 0) {
      text();
    } else if (below(30) == 0) {
      int[] b = {near(255), near(255), near(255), near(255), near(255)};
      int n = near(5);
      CHECKS.due(at + "feed", x.feed(n, b[0], b[1], b[2], b[3], b[4]), model.feed(n, b));
    } else if (below(30) == 0) {
      CHECKS.due(at + "program", x.program(), model.program());
    } else {
      CHECKS.due(at + "run " + p, x.run(p), model.run(p));
    }
  }

  private void text() {
    StringBuilder all = new StringBuilder();
    int items = 1 + below(4);
    for (int i = 0; i < items; i++) {
      item(all, below(5) == 0 ? 9 : 6, 0, false);
    }
    if (below(8) == 0 && all.length() > 0) {
      String signs = "([<{)]>}pnaxbc0123456789 ";
      all.setCharAt(below(all.length()), signs.charAt(below(signs.length())));
    }
    if (below(12) == 0) {
      all.setLength(below(all.length() + 1));
    }
    for (int i = 0; i < all.length(); i++) {
      pending.add((int) all.charAt(i));
    }
    pending.add(-1);
  }

  private void item(StringBuilder all, int depth, int least, boolean loop) {
    int sort = depth <= 0 || all.length() > 62 ? 7 + below(13) : below(20);
    if (sort < 4) {
      int gate = below(6) == 0 ? below(8) : Math.min(7, least + below(2));
      inside(all.append('(').append(gate), ")", depth, gate, loop);
    } else if (sort == 4) {
      inside(all.append('['), "]", depth, least, loop);
    } else if (sort == 5) {
      inside(all.append('<'), ">", depth, least, loop);
    } else if (sort == 6) {
      inside(all.append('{').append(1 + below(9)), "}", depth, least, true);
    } else if (sort < 14) {
      int top = below(8) == 0 ? 8 : Math.max(2, least + 1);
      all.append('p').append(below(top)).append(below(top)).append(below(below(3) == 0 ? 10000 : 60));
    } else if (sort < 18) {
      all.append(below(2) == 0 ? 'n' : 'a').append(below(6) == 0 ? below(8) : below(least + 1));
    } else if (sort == 18) {
      all.append(loop ? below(2) == 0 ? "b" : "c" : "n0");
    } else {
      all.append(below(3) == 0 ? "x" : "n1");
    }
  }

  private void inside(StringBuilder all, String end, int depth, int least, boolean loop) {
    int items = below(4);
    for (int i = 0; i < items; i++) {
      item(all, depth - 1, Math.min(7, least + below(2)), loop);
    }
    all.append(end);
  }

  private void feed(String at) {
    int[] b = new int[5];
    int n = 0;
    while (n < 5 && !pending.isEmpty() && pending.get(0) >= 0) {
      b[n++] = pending.remove(0);
    }
    if (n > 0) {
      CHECKS.due(at + "feed", x.feed(n, b[0], b[1], b[2], b[3], b[4]), model.feed(n, b));
    } else {
      pending.remove(0);
      CHECKS.due(at + "program", x.program(), model.program());
    }
  }

  private void thoughts(String at) {
    int p = which();
    int a = who();
    int s = near(3);
    int what;
    switch (below(5)) {
      case 0 -> {
        what = below(2) == 0 ? near(4) : 10 + near(7);
        CHECKS.due(at + "would " + p + " " + what, x.would(p, what), model.would(p, what));
      }
      case 1 -> CHECKS.due(at + "needed " + p + " " + a, x.needed(p, a), model.needed(p, a));
      case 2 -> CHECKS.due(at + "hinges " + p, x.hinges(p), model.hinges(p));
      case 3 -> {
        what = near(1);
        String call = "tells " + s + " " + p + " " + a + " " + what;
        CHECKS.due(at + call, x.tells(s, p, a, what), model.tells(s, p, a, what));
      }
      default -> CHECKS.due(at + "film " + s + " " + p, x.film(s, p), model.film(s, p));
    }
  }

  private void debts(String at) {
    int from = who();
    int to = who();
    int sort = below(20);
    if (sort < 15) {
      int v = below(6) == 0 ? near(99999) : below(30);
      CHECKS.due(at + "owe " + from + " " + to + " " + v, x.owe(from, to, v), model.owe(from, to, v));
    } else if (sort < 18) {
      CHECKS.due(at + "owed " + from + " " + to, x.owed(from, to), model.owed(from, to));
    } else {
      CHECKS.due(at + "net", x.net(), model.net());
    }
  }

  private void sheets(String at) {
    int s = near(3);
    int i = below(3) == 0 ? near(60) : near(8);
    int j = below(3) == 0 ? near(60) : near(8);
    int n = below(3) == 0 ? near(60) : near(8);
    int other = near(3);
    int sort = below(8) == 0 ? -1 : near(1);
    switch (below(4)) {
      case 0 -> CHECKS.due(at + "sheet " + s + " " + sort + " " + n, x.sheet(s, sort, n), model.sheet(s, sort, n));
      case 1 -> {
        int v = below(4) == 0 ? random.nextInt() : below(180);
        v = below(3) == 0 ? below(8) : v;
        CHECKS.due(at + "put " + s + " " + i + " " + v, x.put(s, i, v), model.put(s, i, v));
      }
      case 2 -> CHECKS.due(at + "copy " + s + " " + i + " " + other + " " + j + " " + n,
          x.copy(s, i, other, j, n), model.copy(s, i, other, j, n));
      default -> {
        n = near(below(2) == 0 ? 20 : 3);
        CHECKS.due(at + "load " + s + " " + sort + " " + i + " " + n, x.load(s, sort, i, n), model.load(s, sort, i, n));
      }
    }
  }

  /** Now and then all that can be seen is looked at; also goes back to an image, or keeps one. */
  private void look(String at) {
    int sort = below(4);
    if (sort == 0) {
      CHECKS.due(at + "image", x.image(), model.image());
      return;
    }
    if (sort == 1) {
      CHECKS.due(at + "back", x.back(), model.back());
    }
    for (int what = -1; what <= 8; what++) {
      CHECKS.due(at + "count " + what, x.count(what), model.count(what));
      CHECKS.due(at + "sum " + what, x.sum(what), model.sum(what));
    }
    for (int a = -1; a <= 8; a++) {
      for (int what = -1; what <= 7; what++) {
        CHECKS.due(at + "told " + a + " " + what, x.told(a, what), model.told(a, what));
        CHECKS.due(at + "of " + a + " " + what, x.of(a, what), model.of(a, what));
        CHECKS.due(at + "owed " + a + " " + what, x.owed(a, what), model.owed(a, what));
      }
    }
    for (int i = -1; i <= 61; i++) {
      CHECKS.due(at + "trace " + i, x.trace(i), model.trace(i));
    }
  }
}
