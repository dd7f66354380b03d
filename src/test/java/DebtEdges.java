/** Edges of debts and of netting: promises 17 to 19 and 27. */
final class DebtEdges {
  private static final int BAD = Edges.BAD, LEAST = Edges.LEAST, GREATEST = Edges.GREATEST;
  private static final int[] NO_ACCOUNT = {LEAST, -1, 3, 8, GREATEST};

  private final Edges e;

  DebtEdges(Edges e) {
    this.e = e;
  }

  void all() {
    amounts();
    gates();
    cuts();
    firstRing();
    firstRingOfMany();
    owe();
    owed();
    net();
    load();
    loadLeavesOut();
    loadRefusals();
    loadOutside();
  }

  /** A bank of that many, with debts told three by three: from, to, v. */
  private static ClearingGates bank(int accounts, int... debts) {
    ClearingGates x = new ClearingGates();
    for (int i = 0; i < accounts; i++) {
      x.account(0, 0);
    }
    for (int i = 0; i + 2 < debts.length; i += 3) {
      x.owe(debts[i], debts[i + 1], debts[i + 2]);
    }
    return x;
  }

  private void dueDebts(ClearingGates x, int... debts) {
    long all = 0;
    for (int i = 0; i + 2 < debts.length; i += 3) {
      e.due("owed from " + debts[i] + " to " + debts[i + 1], x.owed(debts[i], debts[i + 1]), debts[i + 2]);
      all += debts[i + 2];
    }
    e.due("no other debts", x.sum(2), all);
  }

  private void amounts() {
    e.terms("OWED: from an ACCOUNT to another one (0 .. 99999; 0 at first).");
    ClearingGates x = bank(8);
    for (int from = 0; from < 8; from++) {
      for (int to = 0; to < 8; to++) {
        e.due("at first from " + from + " to " + to, x.owed(from, to), from == to ? BAD : 0);
      }
    }
    int[] inside = {1, 99998, 99999, 0};
    int was = 0;
    for (int v : inside) {
      e.due("becomes " + v, x.owe(0, 7, v), was);
      e.due("is " + v, x.owed(0, 7), v);
      e.due("the other way it is 0", x.owed(7, 0), 0);
      was = v;
    }
    int[] outside = {LEAST, -1, 100000, GREATEST};
    for (int v : outside) {
      e.due("can't become " + v, x.owe(0, 7, v), BAD);
    }
    e.due("is 0 still", x.owed(0, 7), 0);
    e.terms("POSITION: what is OWED to one by all less what it owes.");
    ClearingGates y = bank(3, 0, 1, 99999, 2, 1, 99999, 1, 0, 1, 1, 2, 2);
    int[] positions = {1 - 99999, 2 * 99999 - 3, 2 - 99999};
    for (int a = 0; a < 3; a++) {
      e.due("position of " + a, y.of(a, 2), positions[a]);
    }
    e.due("of one without debts", bank(8, 0, 6, 5).of(7, 2), 0);
    e.due("to the eighth", bank(8, 0, 7, 5).of(7, 2), 5);
  }

  private void gates() {
    e.terms("NETTED: all GATES are entered by rising numbers (as BLOCKS; ENTRIES, LEAVINGS count, no marks),");
    int[] sizes = {1, 2, 8};
    for (int n : sizes) {
      ClearingGates x = bank(n);
      for (int time = 1; time <= 2; time++) {
        x.net();
        for (int a = 0; a < n; a++) {
          e.due("entries of " + a + " of " + n, x.told(a, 3), time);
          e.due("leavings of " + a + " of " + n, x.told(a, 4), time);
          e.due("agains of " + a + " of " + n, x.told(a, 5), 0);
        }
      }
      e.due("no marks", x.count(6), 0);
    }
    ClearingGates y = Checks.bank(1, "(0)");
    y.run(0);
    y.net();
    e.dueTrace("the trace stays", y, "10 20");
    y.account(0, 0);
    e.due("one that came later wasn't entered", y.told(1, 3), 0);
  }

  private void cuts() {
    e.terms("then as long as there is a RING (unlike ACCOUNTS, each of which owes the next one, the last one the first): "
        + "the first one's least OWED is taken off each of its debts.");
    ClearingGates two = bank(2, 0, 1, 5, 1, 0, 5);
    e.due("alike debts", two.net(), 1);
    dueDebts(two);
    ClearingGates least = bank(3, 0, 1, 99999, 1, 2, 1, 2, 0, 99999);
    e.due("a least one of 1", least.net(), 1);
    dueDebts(least, 0, 1, 99998, 1, 2, 0, 2, 0, 99998);
    ClearingGates last = bank(3, 0, 1, 9, 1, 2, 8, 2, 0, 7);
    e.due("the last one is the least", last.net(), 1);
    dueDebts(last, 0, 1, 2, 1, 2, 1);
    ClearingGates first = bank(3, 0, 1, 7, 1, 2, 8, 2, 0, 9);
    e.due("the first one is the least", first.net(), 1);
    dueDebts(first, 1, 2, 1, 2, 0, 2);
    ClearingGates most = bank(2, 0, 1, 99999, 1, 0, 99999);
    e.due("greatest debts", most.net(), 1);
    dueDebts(most);
    ClearingGates open = bank(3, 0, 1, 5, 1, 2, 5, 0, 2, 5);
    e.due("no ring: the last one doesn't owe the first", open.net(), 0);
    dueDebts(open, 0, 1, 5, 1, 2, 5, 0, 2, 5);
    ClearingGates off = bank(2, 0, 1, 5, 1, 0, 0);
    e.due("no ring: 0 is not owed", off.net(), 0);
    dueDebts(off, 0, 1, 5);
    ClearingGates eight = bank(8, 0, 1, 8, 1, 2, 7, 2, 3, 6, 3, 4, 5, 4, 5, 4, 5, 6, 3, 6, 7, 2, 7, 0, 1);
    e.due("a ring of eight", eight.net(), 1);
    dueDebts(eight, 0, 1, 7, 1, 2, 6, 2, 3, 5, 3, 4, 4, 4, 5, 3, 5, 6, 2, 6, 7, 1, 7, 0, 0);
    ClearingGates behind = bank(8, 6, 7, 3, 7, 6, 2);
    e.due("a ring of the last two", behind.net(), 1);
    dueDebts(behind, 6, 7, 1);
    ClearingGates apart = bank(4, 0, 1, 1, 1, 0, 1, 2, 3, 1, 3, 2, 1);
    e.due("two rings", apart.net(), 2);
    dueDebts(apart);
    e.due("none is left", apart.net(), 0);
    dueEachOwesEach();
  }

  private void dueEachOwesEach() {
    ClearingGates x = bank(8);
    for (int from = 0; from < 8; from++) {
      for (int to = 0; to < 8; to++) {
        x.owe(from, to, 99999);
      }
    }
    e.due("each owes each", x.net(), 28);
    dueDebts(x);
  }

  private void firstRing() {
    e.terms("First RING: from the least ACCOUNT that is of one on, depth first: "
        + "to the least ACCOUNT that is owed and not yet on the way, back to the first one as soon as that is owed "
        + "(two at least), one step back where none is.");
    // By 0 1 2 and 0 2; the debt from 2 to 0 is in both.
    ClearingGates deep = bank(3, 0, 1, 1, 1, 2, 1, 0, 2, 1, 2, 0, 1);
    e.due("0 1 2 first", deep.net(), 1);
    dueDebts(deep, 0, 1, 0, 1, 2, 0, 0, 2, 1, 2, 0, 0);
    ClearingGates soon = bank(3, 0, 1, 1, 1, 0, 1, 1, 2, 1, 2, 0, 1);
    e.due("0 1 first: back as soon as 0 is owed", soon.net(), 1);
    dueDebts(soon, 1, 2, 1, 2, 0, 1);
    ClearingGates least = bank(4, 0, 2, 1, 2, 1, 1, 2, 3, 1, 1, 0, 1, 3, 0, 1);
    e.due("0 2 1, not 0 2 3", least.net(), 1);
    dueDebts(least, 2, 3, 1, 3, 0, 1);
    ClearingGates from = bank(4, 0, 1, 9, 2, 3, 5, 3, 2, 4, 3, 1, 1);
    e.due("0 and 1 are of none: 2 3", from.net(), 1);
    dueDebts(from, 0, 1, 9, 2, 3, 1, 3, 1, 1);
    // 0 goes to 1, which owes 2 alone, which owes 1 alone: both steps back, then by 3.
    ClearingGates back = bank(4, 0, 1, 9, 1, 2, 5, 2, 1, 3, 0, 3, 2, 3, 0, 2);
    e.due("0 3, then 1 2", back.net(), 2);
    dueDebts(back, 0, 1, 9, 1, 2, 2);
    // 1 is stepped back from, then met once more by 3: still nothing leads on from it.
    ClearingGates again = bank(5, 0, 1, 9, 1, 2, 9, 0, 3, 9, 3, 1, 9, 3, 4, 9, 4, 0, 9);
    e.due("0 3 4", again.net(), 1);
    dueDebts(again, 0, 1, 9, 1, 2, 9, 3, 1, 9);
    // 2 owes 1, which is on the way already: were it taken twice, its debts would be cut twice.
    ClearingGates unlike = bank(4, 0, 1, 9, 1, 2, 2, 2, 1, 9, 2, 3, 9, 3, 0, 1);
    e.due("0 1 2 3, then 1 2", unlike.net(), 2);
    dueDebts(unlike, 0, 1, 8, 1, 2, 0, 2, 1, 8, 2, 3, 8);
    ClearingGates later = bank(4, 0, 1, 9, 1, 2, 9, 2, 1, 2, 2, 3, 9, 3, 0, 1);
    e.due("0 1 2 3, then 1 2, again", later.net(), 2);
    dueDebts(later, 0, 1, 8, 1, 2, 6, 2, 1, 0, 2, 3, 8);
  }

  private void firstRingOfMany() {
    // The one debt to 0 is in both rings: the first one takes all of it off.
    ClearingGates x = bank(4, 0, 1, 5, 1, 3, 5, 0, 2, 5, 2, 3, 5, 3, 0, 7);
    e.due("0 1 3, then 0 2 3", x.net(), 2);
    dueDebts(x, 0, 2, 3, 2, 3, 3);
    ClearingGates y = bank(8, 0, 7, 5, 7, 6, 5, 6, 5, 5, 5, 0, 5, 7, 0, 3);
    e.due("0 7, then 0 7 6 5", y.net(), 2);
    dueDebts(y, 7, 6, 3, 6, 5, 3, 5, 0, 3);
  }

  private void owe() {
    e.promise(17, "OWED from one to another becomes v: what it was.");
    ClearingGates x = bank(3);
    e.due("was nothing", x.owe(2, 0, 99999), 0);
    e.due("was the greatest", x.owe(2, 0, 0), 99999);
    e.due("was nothing again", x.owe(2, 0, 4), 0);
    e.due("the other way", x.owe(0, 2, 3), 0);
    dueDebts(x, 2, 0, 4, 0, 2, 3);
    e.promise(17, "BAD: ACCOUNTS, the same, v.");
    for (int a : NO_ACCOUNT) {
      e.due("from " + a, x.owe(a, 0, 1), BAD);
      e.due("to " + a, x.owe(0, a, 1), BAD);
      e.due("both " + a, x.owe(a, a, 1), BAD);
    }
    for (int a = 0; a < 3; a++) {
      e.due("the same " + a, x.owe(a, a, 1), BAD);
      e.due("the same " + a + ", nothing", x.owe(a, a, 0), BAD);
    }
    e.due("v -1", x.owe(2, 0, -1), BAD);
    e.due("v 100000", x.owe(2, 0, 100000), BAD);
    dueDebts(x, 2, 0, 4, 0, 2, 3);
  }

  private void owed() {
    e.promise(18, "OWED.");
    ClearingGates x = bank(3, 0, 1, 99999, 1, 0, 1);
    e.due("greatest", x.owed(0, 1), 99999);
    e.due("least", x.owed(1, 0), 1);
    e.due("none", x.owed(2, 0), 0);
    e.promise(18, "BAD: ACCOUNTS, the same.");
    for (int a : NO_ACCOUNT) {
      e.due("from " + a, x.owed(a, 0), BAD);
      e.due("to " + a, x.owed(0, a), BAD);
      e.due("both " + a, x.owed(a, a), BAD);
    }
    for (int a = 0; a < 3; a++) {
      e.due("the same " + a, x.owed(a, a), BAD);
    }
  }

  private void net() {
    e.promise(19, "NETTED: how many RINGS were cut.");
    e.due("no accounts", new ClearingGates().net(), 0);
    e.due("one account", bank(1).net(), 0);
    e.due("no debts", bank(8).net(), 0);
    e.due("one", bank(2, 0, 1, 2, 1, 0, 1).net(), 1);
    e.due("four", bank(8, 0, 1, 2, 1, 0, 1, 2, 3, 4, 3, 2, 5, 4, 5, 6, 5, 4, 7, 6, 7, 8, 7, 6, 9).net(), 4);
    e.promise(19, "STATE: a GATE is MISSING.");
    for (int a = 0; a < 8; a++) {
      ClearingGates x = bank(8, 0, 1, 2, 1, 0, 1);
      x.gate(a, false);
      e.due("gate " + a, x.net(), Edges.STATE);
      e.due("nothing is cut", x.sum(2), 3);
      for (int other = 0; other < 8; other++) {
        e.due("none is entered", x.told(other, 3), 0);
        e.due("none is left", x.told(other, 4), 0);
      }
      x.gate(a, true);
      e.due("it is there", x.net(), 1);
    }
    ClearingGates none = bank(1);
    none.gate(0, false);
    e.due("though there are no debts", none.net(), Edges.STATE);
  }

  private static void fill(ClearingGates x, int sheet, int sort, int... numbers) {
    x.sheet(sheet, sort, numbers.length);
    for (int i = 0; i < numbers.length; i++) {
      x.put(sheet, i, numbers[i]);
    }
  }

  private void load() {
    e.promise(27, "OWED by a SHEET that is taken for one of a sort: its items from one on, three a debt (from, to, v), "
        + "n of them (0 .. 20): how many came");
    ClearingGates x = bank(3);
    fill(x, 0, 1, 9, 0, 1, 99999, 1, 2, 0, 2, 0, 7);
    e.due("none", x.load(0, 1, 1, 0), 0);
    dueDebts(x);
    e.due("one", x.load(0, 1, 1, 1), 1);
    dueDebts(x, 0, 1, 99999);
    e.due("three, the last ones", x.load(0, 1, 1, 3), 3);
    dueDebts(x, 0, 1, 99999, 2, 0, 7);
    fill(x, 3, 0, 1, 0, 255, 0, 1, 256, 2, 1, 200);
    e.due("bytes", x.load(3, 0, 0, 3), 3);
    dueDebts(x, 1, 0, 255, 0, 1, 0, 2, 1, 200, 2, 0, 7);
    ClearingGates most = bank(8);
    most.sheet(0, 1, 60);
    for (int debt = 0; debt < 20; debt++) {
      most.put(0, 3 * debt, debt % 7);
      most.put(0, 3 * debt + 1, 7);
      most.put(0, 3 * debt + 2, debt);
    }
    e.due("20 of 20", most.load(0, 1, 0, 20), 20);
    dueDebts(most, 0, 7, 14, 1, 7, 15, 2, 7, 16, 3, 7, 17, 4, 7, 18, 5, 7, 19, 6, 7, 13);
  }

  private void loadLeavesOut() {
    e.promise(27, "(what owe() refuses is left out).");
    int[][] refused = {{-1, 1, 1}, {3, 1, 1}, {0, -1, 1}, {0, 3, 1}, {1, 1, 1}, {0, 1, -1}, {0, 1, 100000},
        {LEAST, 1, 1}, {0, GREATEST, 1}, {0, 1, LEAST}};
    for (int[] debt : refused) {
      ClearingGates x = bank(3);
      fill(x, 0, 1, 0, 1, 5, debt[0], debt[1], debt[2], 1, 2, 6);
      e.due("two of three", x.load(0, 1, 0, 3), 2);
      dueDebts(x, 0, 1, 5, 1, 2, 6);
      e.due("none of one", x.load(0, 1, 3, 1), 0);
      dueDebts(x, 0, 1, 5, 1, 2, 6);
    }
  }

  private void loadRefusals() {
    e.promise(27, "BAD: no such SHEET, sort, n;");
    ClearingGates x = bank(3);
    fill(x, 0, 1, 0, 1, 5);
    fill(x, 1, 0, 0, 1, 5);
    int[] sheets = {LEAST, -1, 4, GREATEST};
    int[] sorts = {LEAST, -1, 2, GREATEST};
    int[] counts = {LEAST, -1, 21, GREATEST};
    for (int s : sheets) {
      e.due("sheet " + s, x.load(s, 1, 0, 1), BAD);
    }
    for (int sort : sorts) {
      e.due("sort " + sort, x.load(0, sort, 0, 1), BAD);
      e.due("sort " + sort + " of a missing one", x.load(2, sort, 0, 0), BAD);
    }
    for (int n : counts) {
      e.due("n " + n, x.load(0, 1, 0, n), BAD);
      e.due("n " + n + " of another sort", x.load(0, 0, 0, n), BAD);
      e.due("n " + n + " of a missing one", x.load(2, 1, 0, n), BAD);
    }
    e.promise(27, "-13, of a missing one -11 (both with n 0, too);");
    int[] froms = {0, -1, 3, GREATEST};
    for (int n = 0; n <= 20; n += 20) {
      for (int from : froms) {
        e.due("ints for bytes", x.load(0, 0, from, n), -13);
        e.due("bytes for ints", x.load(1, 1, from, n), -13);
        e.due("missing, for bytes", x.load(2, 0, from, n), -11);
        e.due("missing, for ints", x.load(3, 1, from, n), -11);
      }
    }
    x.sheet(1, 0, 0);
    e.due("an empty one is of a sort, too", x.load(1, 1, 0, 0), -13);
    e.due("an empty one is not missing", x.load(1, 0, 0, 0), 0);
    dueDebts(x);
  }

  private void loadOutside() {
    e.promise(27, "-12: what stood ahead came.");
    for (int size = 6; size <= 8; size++) {
      ClearingGates x = bank(3);
      x.sheet(0, 1, size);
      int[] items = {0, 1, 5, 1, 2, 6, 2, 0};
      for (int i = 0; i < size; i++) {
        x.put(0, i, items[i]);
      }
      e.due("the third is outside, of " + size, x.load(0, 1, 0, 3), -12);
      dueDebts(x, 0, 1, 5, 1, 2, 6);
      e.due("the second alone", x.load(0, 1, 3, 1), 1);
      e.due("two", x.load(0, 1, 0, 2), 2);
      int[] outside = {LEAST, -1, -2, -3, -4, size - 2, size - 1, size, size + 1, GREATEST - 2, GREATEST};
      for (int from : outside) {
        e.due("from " + from + " of " + size, x.load(0, 1, from, 1), -12);
        e.due("20 from " + from + " of " + size, x.load(0, 1, from, 20), -12);
        e.due("none from " + from + " of " + size, x.load(0, 1, from, 0), 0);
      }
      dueDebts(x, 0, 1, 5, 1, 2, 6);
    }
    ClearingGates whole = bank(2);
    whole.sheet(0, 0, 60);
    e.due("20 of 60", whole.load(0, 0, 0, 20), 0);
    e.due("20 of 59", whole.load(0, 0, 1, 20), -12);
    e.due("19 of 57", whole.load(0, 0, 3, 19), 0);
    e.due("the last one", whole.load(0, 0, 57, 1), 0);
    e.due("one behind it", whole.load(0, 0, 58, 1), -12);
    // What stood ahead and was refused doesn't matter.
    ClearingGates first = bank(2);
    fill(first, 0, 1, 0, 0, 1, 0, 1, 7);
    e.due("one refused, one that came, one outside", first.load(0, 1, 0, 3), -12);
    dueDebts(first, 0, 1, 7);
  }
}
