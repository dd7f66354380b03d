import java.util.ArrayList;
import java.util.List;
import java.util.Random;

/**
 * Long runs of calls, the same ones each time, on the class and on the model: all answers are the same. An object is
 * used for 512 calls, so each run ends by looking at all that can be seen while there are calls left for that.
 */
public final class ModelTest {
  private static final int RUNS = 6000, CALLS = 512, LOOK = 8 + 3 + 8 * (7 + 3 + 8) + 60;
  private static final Checks CHECKS = new Checks("ModelTest");
  private static final int[] FARTHEST = {Integer.MIN_VALUE, Integer.MIN_VALUE + 1, Integer.MIN_VALUE + 10,
      Integer.MAX_VALUE - 2, Integer.MAX_VALUE};

  private final Random random;
  private final ClearingGates x = new ClearingGates();
  private final Model model = new Model();
  private final List<Integer> pending = new ArrayList<>();
  private int calls = 0;
  private String at = "";

  private ModelTest(long seed) {
    random = new Random(seed);
  }

  public static void main(String[] args) {
    for (int run = 0; run < RUNS; run++) {
      ModelTest test = new ModelTest(run);
      while (test.calls < CALLS - LOOK) {
        test.at = "run " + run + " call " + test.calls + ": ";
        test.step();
      }
      test.lookAtAll();
      CHECKS.due("512 calls at most", test.calls <= CALLS);
    }
    CHECKS.end();
  }

  private void due(String call, long got, long want) {
    calls++;
    CHECKS.due(at + call, got, want);
  }

  private int below(int n) {
    return random.nextInt(n);
  }

  /** Mostly 0 .. most, seldom just outside or far out. */
  private int near(int most) {
    int odd = below(60);
    if (odd == 0) {
      return -1;
    }
    if (odd == 1) {
      return most + 1;
    }
    if (odd == 2) {
      return below(2) == 0 ? random.nextInt() : FARTHEST[below(FARTHEST.length)];
    }
    return odd < 8 ? most : below(most + 1);
  }

  private int who() {
    return below(4) == 0 ? near(7) : below(Math.max(1, model.count(0)));
  }

  private int which() {
    return below(8) == 0 ? near(3) : below(Math.max(1, model.count(1)));
  }

  private int money() {
    int[] some = {0, 1, 10, 50, 100, 200, 500, 1000, 12345, 999999990, 1000000000};
    return below(10) == 0 ? near(1000000000) : some[below(some.length)];
  }

  private void step() {
    if (!pending.isEmpty()) {
      feed();
      return;
    }
    int sort = below(100);
    if (sort < 18) {
      accounts();
    } else if (sort < 42) {
      programs();
    } else if (sort < 60) {
      thoughts();
    } else if (sort < 80) {
      debts();
    } else if (sort < 92) {
      sheets();
    } else {
      look();
    }
  }

  private void accounts() {
    int a = who();
    int what;
    int v;
    switch (below(4)) {
      case 0 -> {
        what = near(4);
        v = money();
        due("account " + what + " " + v, x.account(what, v), model.account(what, v));
      }
      case 1 -> {
        what = near(1);
        v = what == 1 ? near(below(2) == 0 ? 40 : 9999) : money();
        due("set " + a + " " + what + " " + v, x.set(a, what, v), model.set(a, what, v));
      }
      case 2 -> {
        boolean is = below(4) != 0;
        due("gate " + a + " " + is, x.gate(a, is), model.gate(a, is));
      }
      default -> {
        what = near(4);
        due("taken " + a + " " + what, x.taken(a, what), model.taken(a, what));
      }
    }
  }

  private void programs() {
    int p = which();
    if (below(3) == 0) {
      text();
    } else if (below(30) == 0) {
      int[] b = {near(255), near(255), near(255), near(255), near(255)};
      int n = near(5);
      due("feed", x.feed(n, b[0], b[1], b[2], b[3], b[4]), model.feed(n, b));
    } else if (below(30) == 0) {
      due("program", x.program(), model.program());
    } else {
      due("run " + p, x.run(p), model.run(p));
    }
  }

  private void text() {
    StringBuilder all = new StringBuilder();
    int items = 1 + below(4);
    for (int i = 0; i < items; i++) {
      item(all, below(5) == 0 ? 9 : 6, 0, false);
    }
    if (below(8) == 0 && all.length() > 0) {
      String signs = "([<{)]>}pnaxbc0123456789 ";
      all.setCharAt(below(all.length()), signs.charAt(below(signs.length())));
    }
    if (below(12) == 0) {
      all.setLength(below(all.length() + 1));
    }
    for (int i = 0; i < all.length(); i++) {
      pending.add((int) all.charAt(i));
    }
    pending.add(-1);
  }

  private void item(StringBuilder all, int depth, int least, boolean loop) {
    int sort = depth <= 0 || all.length() > 62 ? 7 + below(13) : below(20);
    if (sort < 4) {
      int gate = below(6) == 0 ? below(8) : Math.min(7, least + below(2));
      inside(all.append('(').append(gate), ")", depth, gate, loop);
    } else if (sort == 4) {
      inside(all.append('['), "]", depth, least, loop);
    } else if (sort == 5) {
      inside(all.append('<'), ">", depth, least, loop);
    } else if (sort == 6) {
      inside(all.append('{').append(1 + below(9)), "}", depth, least, true);
    } else if (sort < 14) {
      int top = below(8) == 0 ? 8 : Math.max(2, least + 1);
      all.append('p').append(below(top)).append(below(top)).append(below(below(3) == 0 ? 10000 : 60));
    } else if (sort < 18) {
      all.append(below(2) == 0 ? 'n' : 'a').append(below(6) == 0 ? below(8) : below(least + 1));
    } else if (sort == 18) {
      all.append(loop ? below(2) == 0 ? "b" : "c" : "n0");
    } else {
      all.append(below(3) == 0 ? "x" : "n1");
    }
  }

  private void inside(StringBuilder all, String end, int depth, int least, boolean loop) {
    int items = below(4);
    for (int i = 0; i < items; i++) {
      item(all, depth - 1, Math.min(7, least + below(2)), loop);
    }
    all.append(end);
  }

  private void feed() {
    int[] b = new int[5];
    int n = 0;
    while (n < 5 && !pending.isEmpty() && pending.get(0) >= 0) {
      b[n++] = pending.remove(0);
    }
    if (n > 0) {
      due("feed", x.feed(n, b[0], b[1], b[2], b[3], b[4]), model.feed(n, b));
    } else {
      pending.remove(0);
      due("program", x.program(), model.program());
    }
  }

  private void thoughts() {
    int p = which();
    int a = who();
    int s = near(3);
    int what;
    switch (below(5)) {
      case 0 -> {
        what = below(2) == 0 ? near(4) : 10 + near(7);
        due("would " + p + " " + what, x.would(p, what), model.would(p, what));
      }
      case 1 -> due("needed " + p + " " + a, x.needed(p, a), model.needed(p, a));
      case 2 -> due("hinges " + p, x.hinges(p), model.hinges(p));
      case 3 -> {
        what = near(1);
        String call = "tells " + s + " " + p + " " + a + " " + what;
        due(call, x.tells(s, p, a, what), model.tells(s, p, a, what));
      }
      default -> due("film " + s + " " + p, x.film(s, p), model.film(s, p));
    }
  }

  private void debts() {
    int from = who();
    int to = who();
    int sort = below(20);
    if (sort < 15) {
      int v = below(6) == 0 ? near(99999) : below(30);
      due("owe " + from + " " + to + " " + v, x.owe(from, to, v), model.owe(from, to, v));
    } else if (sort < 18) {
      due("owed " + from + " " + to, x.owed(from, to), model.owed(from, to));
    } else {
      due("net", x.net(), model.net());
    }
  }

  private void sheets() {
    int s = near(3);
    int i = below(3) == 0 ? near(60) : near(8);
    int j = below(3) == 0 ? near(60) : near(8);
    int n = below(3) == 0 ? near(60) : near(8);
    int other = near(3);
    int sort = below(8) == 0 ? -1 : near(1);
    switch (below(4)) {
      case 0 -> due("sheet " + s + " " + sort + " " + n, x.sheet(s, sort, n), model.sheet(s, sort, n));
      case 1 -> {
        int v = below(4) == 0 ? random.nextInt() : below(180);
        v = below(3) == 0 ? below(8) : v;
        due("put " + s + " " + i + " " + v, x.put(s, i, v), model.put(s, i, v));
      }
      case 2 -> due("copy " + s + " " + i + " " + other + " " + j + " " + n,
          x.copy(s, i, other, j, n), model.copy(s, i, other, j, n));
      default -> {
        n = near(below(2) == 0 ? 20 : 3);
        due("load " + s + " " + sort + " " + i + " " + n, x.load(s, sort, i, n), model.load(s, sort, i, n));
      }
    }
  }

  /** Now and then one thing is looked at; also goes back to an image, or keeps one. */
  private void look() {
    int a = who();
    int what = near(7);
    switch (below(8)) {
      case 0 -> due("image", x.image(), model.image());
      case 1 -> due("back", x.back(), model.back());
      case 2 -> due("count " + what, x.count(what), model.count(what));
      case 3 -> due("sum " + what, x.sum(what), model.sum(what));
      case 4 -> due("told " + a + " " + what, x.told(a, what), model.told(a, what));
      case 5 -> due("of " + a + " " + what, x.of(a, what), model.of(a, what));
      default -> {
        int i = near(60);
        due("trace " + i, x.trace(i), model.trace(i));
      }
    }
  }

  private void lookAtAll() {
    for (int what = 0; what <= 7; what++) {
      due("count " + what, x.count(what), model.count(what));
    }
    for (int what = 0; what <= 2; what++) {
      due("sum " + what, x.sum(what), model.sum(what));
    }
    for (int a = 0; a < 8; a++) {
      for (int what = 0; what <= 6; what++) {
        due("told " + a + " " + what, x.told(a, what), model.told(a, what));
      }
      for (int what = 0; what <= 2; what++) {
        due("of " + a + " " + what, x.of(a, what), model.of(a, what));
      }
      for (int to = 0; to < 8; to++) {
        due("owed " + a + " " + to, x.owed(a, to), model.owed(a, to));
      }
    }
    for (int i = 0; i < 60; i++) {
      due("trace " + i, x.trace(i), model.trace(i));
    }
  }
}
