import java.util.function.Supplier;

/**
 * What is said of all refusals. Each refused call is done on one of two banks with the same past; all that can be seen
 * of both must be the same afterwards.
 */
final class RefusalEdges {
  private static final int BAD = Edges.BAD, STATE = Edges.STATE, FULL = Edges.FULL;
  private static final int LEAST = Edges.LEAST, GREATEST = Edges.GREATEST, RICHEST = 1000000000;
  private static final long NO = Edges.NO;

  private interface Call {
    long on(ClearingGates x);
  }

  private final Edges e;
  private Supplier<ClearingGates> bank = RefusalEdges::some;

  RefusalEdges(Edges e) {
    this.e = e;
  }

  void all() {
    order();
    e.terms("they change nothing (but THE TAPE, where told):");
    accounts();
    programs();
    thoughts();
    debts();
    sheets();
    whereFull();
    withoutImage();
    tapeWhereTold();
  }

  /** Three ACCOUNTS, of which the last one's GATE is MISSING, two PROGRAMS, a part of THE TAPE, an image, SHEETS. */
  private static ClearingGates some() {
    ClearingGates x = withoutImageYet();
    x.image();
    x.run(0);
    x.owe(0, 1, 6);
    return x;
  }

  private static ClearingGates withoutImageYet() {
    ClearingGates x = new ClearingGates();
    x.account(1, 100);
    x.account(4, 200);
    x.account(3, 300);
    x.set(2, 1, 40);
    x.gate(2, false);
    Checks.program(x, "(0(1p0110n0[x]))n1(2)");
    Checks.program(x, "(0n0)");
    x.run(1);
    x.owe(0, 1, 5);
    x.owe(1, 0, 4);
    fill(x, 0, 1, 0, 1, 7, 1, 2, 8);
    fill(x, 1, 0, 1, 0, 9, 2, 1, 10);
    x.sheet(3, 1, 0);
    Checks.feed(x, "(1n1");
    return x;
  }

  /** All that can be is full. */
  private static ClearingGates full() {
    ClearingGates x = new ClearingGates();
    x.image();
    for (int a = 0; a < 8; a++) {
      x.account(a % 5, 100);
    }
    for (int p = 0; p < 4; p++) {
      Checks.program(x, "(" + p + "n0)");
    }
    x.run(3);
    fill(x, 0, 1, 0, 7, 8);
    Checks.feed(x, "n0".repeat(40));
    return x;
  }

  private static void fill(ClearingGates x, int sheet, int sort, int... numbers) {
    x.sheet(sheet, sort, numbers.length);
    for (int i = 0; i < numbers.length; i++) {
      x.put(sheet, i, numbers[i]);
    }
  }

  private void refused(String call, Call is, long want) {
    ClearingGates x = bank.get();
    ClearingGates twin = bank.get();
    e.due(call, is.on(x), want);
    dueAlike(call, x, twin);
  }

  private void dueAlike(String call, ClearingGates x, ClearingGates twin) {
    String got = seen(x);
    String due = seen(twin);
    e.due("changed by " + call + ": " + got + " for " + due, got.equals(due));
  }

  /** All that can be seen of a bank; looking changes it, so it is done once. */
  private static String seen(ClearingGates x) {
    StringBuilder all = new StringBuilder();
    addBooks(all, x);
    for (int i = 0; i <= x.count(6); i++) {
      all.append(x.trace(i)).append(' ');
    }
    for (int p = 0; p < 4; p++) {
      all.append(x.would(p, 2)).append(' ');
    }
    all.append("sheets ");
    for (int s = 0; s < 4; s++) {
      for (int i = 0; i <= 7; i++) {
        all.append(x.copy(s, i, s, i, 0)).append(' ');
      }
      all.append(x.load(s, 0, 0, 3)).append(' ').append(x.load(s, 1, 0, 3)).append(' ');
      addDebts(all, x, 3);
    }
    all.append("tape ").append(Checks.program(x, ")")).append(' ').append(x.would(x.count(1) - 1, 2));
    all.append(" image ").append(x.back()).append(' ');
    addBooks(all, x);
    // A full TAPE can only be read where an image has made room for a PROGRAM.
    all.append(x.program()).append(' ').append(x.would(x.count(1) - 1, 2));
    return all.toString();
  }

  private static void addBooks(StringBuilder all, ClearingGates x) {
    for (int what = 0; what <= 7; what++) {
      all.append(x.count(what)).append(' ');
    }
    for (int what = 0; what <= 2; what++) {
      all.append(x.sum(what)).append(' ');
    }
    for (int a = 0; a < x.count(0); a++) {
      for (int what = 0; what <= 6; what++) {
        all.append(x.told(a, what)).append(' ');
      }
      for (int what = 0; what <= 2; what++) {
        all.append(x.of(a, what)).append(' ');
      }
    }
    addDebts(all, x, 3);
  }

  private static void addDebts(StringBuilder all, ClearingGates x, int accounts) {
    for (int from = 0; from < accounts; from++) {
      for (int to = 0; to < accounts; to++) {
        all.append(x.owed(from, to)).append(' ');
      }
    }
  }

  private void order() {
    e.terms("Refusals, the first that the call's words name;");
    ClearingGates f = full();
    e.due("account: BAD ahead of FULL", f.account(5, 0), BAD);
    e.due("account: BAD ahead of FULL, too", f.account(0, -1), BAD);
    e.due("taken: BAD ahead of -13", f.taken(0, 5), BAD);
    e.due("feed: BAD ahead of FULL", f.feed(6, 0, 0, 0, 0, 0), BAD);
    e.due("feed: BAD ahead of FULL, too", f.feed(1, 0, 0, 0, 0, -1), BAD);
    Checks.feed(f, ")");
    e.due("program: FULL ahead of a FAULT", f.program(), FULL);
    ClearingGates x = some();
    e.due("tells: BAD ahead of -11", x.tells(2, 2, 0, 0), BAD);
    e.due("tells: BAD ahead of -11, by what", x.tells(2, 0, 0, 2), BAD);
    e.due("tells: BAD ahead of -11, by account", x.tells(2, 0, 3, 1), BAD);
    e.due("sheet: BAD ahead of -14", x.sheet(4, 0, -1), BAD);
    e.due("sheet: BAD ahead of -14, by sort", x.sheet(0, 2, -1), BAD);
    e.due("put: BAD ahead of -12", x.put(4, -1, 0), BAD);
    e.due("put: -11 ahead of -12", x.put(2, -1, 0), -11);
    e.due("copy: BAD ahead of -11", x.copy(2, 0, 4, 0, 0), BAD);
    e.due("copy: BAD ahead of -12", x.copy(0, -1, 4, 0, 0), BAD);
    e.due("copy: -11 ahead of -12", x.copy(0, -1, 2, 0, 0), -11);
    e.due("copy: -13 ahead of -12", x.copy(0, -1, 1, 0, 0), -13);
    e.due("load: BAD ahead of -11", x.load(2, 2, 0, 0), BAD);
    e.due("load: BAD ahead of -13", x.load(0, 0, 0, 21), BAD);
    e.due("load: BAD ahead of -12", x.load(0, 1, -1, 21), BAD);
    e.due("load: -11 ahead of -12", x.load(2, 1, -1, 1), -11);
    e.due("load: -13 ahead of -12", x.load(0, 0, -1, 1), -13);
  }

  private void accounts() {
    refused("account -1 0", x -> x.account(-1, 0), BAD);
    refused("account 5 0", x -> x.account(5, 0), BAD);
    refused("account 0 -1", x -> x.account(0, -1), BAD);
    refused("account 0 too much", x -> x.account(0, RICHEST + 1), BAD);
    int[] none = {LEAST, -1, 3, 8, GREATEST};
    for (int a : none) {
      refused("set " + a + " 0 1", x -> x.set(a, 0, 1), NO);
      refused("set " + a + " 1 1", x -> x.set(a, 1, 1), NO);
      refused("gate " + a + " true", x -> x.gate(a, true), BAD);
      refused("gate " + a + " false", x -> x.gate(a, false), BAD);
      refused("told " + a + " 0", x -> x.told(a, 0), BAD);
      refused("of " + a + " 0", x -> x.of(a, 0), NO);
      refused("taken " + a + " 0", x -> x.taken(a, 0), BAD);
    }
    refused("set 0 -1 1", x -> x.set(0, -1, 1), NO);
    refused("set 0 2 1", x -> x.set(0, 2, 1), NO);
    refused("set 0 0 -1", x -> x.set(0, 0, -1), NO);
    refused("set 0 0 too much", x -> x.set(0, 0, RICHEST + 1), NO);
    refused("set 0 1 -1", x -> x.set(0, 1, -1), NO);
    refused("set 0 1 10000", x -> x.set(0, 1, 10000), NO);
    refused("told 0 7", x -> x.told(0, 7), BAD);
    refused("of 0 3", x -> x.of(0, 3), NO);
    refused("count 8", x -> x.count(8), BAD);
    refused("sum 3", x -> x.sum(3), NO);
    refused("taken 0 5", x -> x.taken(0, 5), BAD);
    refused("taken 0 4", x -> x.taken(0, 4), -13);
  }

  private void programs() {
    refused("feed 0", x -> x.feed(0, 1, 1, 1, 1, 1), BAD);
    refused("feed 6", x -> x.feed(6, 1, 1, 1, 1, 1), BAD);
    int[] no = {-1, 256};
    for (int v : no) {
      refused("feed a " + v, x -> x.feed(5, v, 1, 1, 1, 1), BAD);
      refused("feed b " + v, x -> x.feed(5, 1, v, 1, 1, 1), BAD);
      refused("feed c " + v, x -> x.feed(5, 1, 1, v, 1, 1), BAD);
      refused("feed d " + v, x -> x.feed(5, 1, 1, 1, v, 1), BAD);
      refused("feed e " + v, x -> x.feed(5, 1, 1, 1, 1, v), BAD);
      refused("feed e, not of the first, " + v, x -> x.feed(1, 1, 1, 1, 1, v), BAD);
    }
    int[] none = {LEAST, -1, 2, 4, GREATEST};
    for (int p : none) {
      refused("run " + p, x -> x.run(p), BAD);
    }
    int[] outside = {LEAST, -1, 60, GREATEST};
    for (int i : outside) {
      refused("trace " + i, x -> x.trace(i), -12);
    }
  }

  private void thoughts() {
    int[] none = {LEAST, -1, 2, 4, GREATEST};
    for (int p : none) {
      refused("would " + p, x -> x.would(p, 0), NO);
      refused("needed " + p, x -> x.needed(p, 0), BAD);
      refused("hinges " + p, x -> x.hinges(p), BAD);
      refused("tells by " + p, x -> x.tells(0, p, 0, 0), BAD);
      refused("film by " + p, x -> x.film(0, p), BAD);
    }
    refused("would 0 4", x -> x.would(0, 4), NO);
    refused("would 0 13", x -> x.would(0, 13), NO);
    refused("needed 0 3", x -> x.needed(0, 3), BAD);
    refused("needed 0 -1", x -> x.needed(0, -1), BAD);
    refused("tells of account 3", x -> x.tells(0, 0, 3, 1), BAD);
    refused("tells 2", x -> x.tells(0, 0, 0, 2), BAD);
    refused("tells by sheet 4", x -> x.tells(4, 0, 0, 0), BAD);
    refused("tells by a missing sheet", x -> x.tells(2, 0, 0, 0), -11);
    refused("film on sheet 4", x -> x.film(4, 0), BAD);
    refused("film on sheet -1", x -> x.film(-1, 0), BAD);
  }

  private void debts() {
    int[] none = {LEAST, -1, 3, 8, GREATEST};
    for (int a : none) {
      refused("owe from " + a, x -> x.owe(a, 0, 1), BAD);
      refused("owe to " + a, x -> x.owe(0, a, 1), BAD);
      refused("owed from " + a, x -> x.owed(a, 0), BAD);
      refused("owed to " + a, x -> x.owed(0, a), BAD);
    }
    refused("owe itself", x -> x.owe(1, 1, 1), BAD);
    refused("owe -1", x -> x.owe(0, 1, -1), BAD);
    refused("owe 100000", x -> x.owe(0, 1, 100000), BAD);
    refused("owed itself", x -> x.owed(1, 1), BAD);
    refused("net with a missing gate", x -> x.net(), STATE);
    refused("load 4", x -> x.load(4, 1, 0, 1), BAD);
    refused("load of sort 2", x -> x.load(0, 2, 0, 1), BAD);
    refused("load 21", x -> x.load(0, 1, 0, 21), BAD);
    refused("load -1", x -> x.load(0, 1, 0, -1), BAD);
    refused("load ints for bytes", x -> x.load(0, 0, 0, 2), -13);
    refused("load bytes for ints", x -> x.load(1, 1, 0, 2), -13);
    refused("load a missing one", x -> x.load(2, 1, 0, 2), -11);
    refused("load with nothing ahead", x -> x.load(0, 1, 4, 1), -12);
    refused("load from -1", x -> x.load(0, 1, -1, 2), -12);
    refused("load from an empty one", x -> x.load(3, 1, 0, 1), -12);
  }

  private void sheets() {
    int[] none = {LEAST, -1, 4, GREATEST};
    for (int s : none) {
      refused("sheet " + s, x -> x.sheet(s, 1, 1), BAD);
      refused("sheet " + s + " missing", x -> x.sheet(s, -1, 1), BAD);
      refused("put on " + s, x -> x.put(s, 0, 1), BAD);
      refused("copy from " + s, x -> x.copy(s, 0, 0, 0, 1), BAD);
      refused("copy to " + s, x -> x.copy(0, 0, s, 0, 1), BAD);
    }
    refused("sheet of sort 2", x -> x.sheet(0, 2, 1), BAD);
    refused("sheet of sort -2", x -> x.sheet(0, -2, 1), BAD);
    refused("sheet of 61", x -> x.sheet(0, 1, 61), BAD);
    refused("sheet of -1", x -> x.sheet(0, 1, -1), -14);
    refused("sheet of the least", x -> x.sheet(1, 0, LEAST), -14);
    refused("put on a missing one", x -> x.put(2, 0, 1), -11);
    refused("put at -1", x -> x.put(0, -1, 9), -12);
    refused("put behind the last", x -> x.put(0, 6, 9), -12);
    refused("put on an empty one", x -> x.put(3, 0, 9), -12);
    refused("copy from a missing one", x -> x.copy(2, 0, 0, 0, 1), -11);
    refused("copy to a missing one", x -> x.copy(0, 0, 2, 0, 1), -11);
    refused("copy ints to bytes", x -> x.copy(0, 0, 1, 0, 3), -13);
    refused("copy bytes to ints", x -> x.copy(1, 0, 0, 0, 3), -13);
    refused("copy to a place outside", x -> x.copy(0, 0, 0, 4, 3), -12);
    refused("copy from a place outside", x -> x.copy(0, 4, 0, 0, 3), -12);
    refused("copy to an empty one", x -> x.copy(0, 0, 3, 0, 1), -12);
    refused("copy -1", x -> x.copy(0, 1, 0, 0, -1), -12);
  }

  private void whereFull() {
    bank = RefusalEdges::full;
    refused("a ninth account", x -> x.account(2, 7), FULL);
    refused("a fifth program", x -> x.program(), FULL);
    refused("an 81st byte", x -> x.feed(1, 'x', 0, 0, 0, 0), FULL);
    refused("an 81st byte and more", x -> x.feed(5, 'x', 'x', 'x', 'x', 'x'), FULL);
    refused("account 8", x -> x.gate(8, false), BAD);
    refused("program 4", x -> x.run(4), BAD);
    refused("owe to account 8", x -> x.owe(0, 8, 1), BAD);
    refused("balance of account 8", x -> x.would(0, 18), NO);
  }

  private void withoutImage() {
    bank = RefusalEdges::withoutImageYet;
    refused("back without an image", x -> x.back(), STATE);
  }

  /** A FAULT changes THE TAPE alone: the bank is as one whose TAPE was never fed. */
  private void tapeWhereTold() {
    String[] faults = {"", ")", "(0", "{1b}c", "n0n0n0n0n0?", "[[[[[[[[[", "x".repeat(79) + "("};
    int[] places = {0, 0, 2, 4, 10, 8, 80};
    for (int i = 0; i < faults.length; i++) {
      ClearingGates x = Checks.bank(3, "(0n0)");
      x.image();
      x.run(0);
      ClearingGates twin = Checks.bank(3, "(0n0)");
      twin.image();
      twin.run(0);
      e.due("fault of " + faults[i], Checks.program(x, faults[i]), -100 - places[i]);
      dueAlike("fault of " + faults[i], x, twin);
    }
  }
}
