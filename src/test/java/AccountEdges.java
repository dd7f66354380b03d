/** Edges of ACCOUNTS and their KINDS, and of promises 1 to 9. */
final class AccountEdges {
  private static final int BAD = Edges.BAD, LEAST = Edges.LEAST, GREATEST = Edges.GREATEST;
  private static final long NO = Edges.NO;
  private static final int SHORT = 1;
  private static final int RICHEST = 1000000000;

  private final Edges e;

  AccountEdges(Edges e) {
    this.e = e;
  }

  void all() {
    eight();
    balances();
    limits();
    gatesAndCounts();
    numbers();
    floors();
    plainAndSaver();
    creditAndGold();
    tithe();
    newObject();
    account();
    set();
    gate();
    told();
    of();
    count();
    sum();
    taken();
  }

  private static ClearingGates ofKind(int kind, int balance, int limit) {
    ClearingGates x = new ClearingGates();
    x.account(kind, balance);
    x.account(0, 0);
    x.set(0, 1, limit);
    return x;
  }

  private static ClearingGates ofEachKind() {
    ClearingGates x = new ClearingGates();
    for (int kind = 0; kind < 5; kind++) {
      x.account(kind, 0);
    }
    return x;
  }

  /** What a payment of v by ACCOUNT 0 to ACCOUNT 1 ends with. */
  private static int pay(ClearingGates x, int v) {
    return x.run(Checks.program(x, "(0(1p01" + v + "))"));
  }

  private void eight() {
    e.terms("ACCOUNTS (8 at most, numbered from 0 as they come)");
    ClearingGates x = new ClearingGates();
    for (int i = 0; i < 8; i++) {
      e.due("no account " + i + " yet", x.told(i, 0), BAD);
      e.due("account " + i, x.account(i % 5, i), i);
      e.due("as it came", x.of(i, 0), i);
    }
    e.due("a ninth", x.account(0, 0), Edges.FULL);
    e.due("it did not come", x.told(8, 0), BAD);
    e.due("eight", x.count(0), 8);
  }

  private void balances() {
    e.terms("have a KIND, a BALANCE (0 .. 1000000000 as told),");
    int[] outside = {LEAST, -RICHEST, -1, RICHEST + 1, GREATEST};
    int[] inside = {0, 1, RICHEST - 1, RICHEST};
    for (int v : outside) {
      ClearingGates x = new ClearingGates();
      e.due("account with " + v, x.account(0, v), BAD);
      x.account(0, 5);
      e.due("set to " + v, x.set(0, 0, v), NO);
      e.due("it stays", x.of(0, 0), 5);
    }
    for (int v : inside) {
      ClearingGates x = new ClearingGates();
      e.due("account with " + v, x.account(0, v), 0);
      e.due("it has that", x.of(0, 0), v);
      x.account(0, 5);
      e.due("set to " + v, x.set(1, 0, v), 5);
      e.due("it is that", x.of(1, 0), v);
    }
    ClearingGates credit = ofKind(2, 0, 1);
    e.due("a payment may bring it below what can be told", pay(credit, 1), 0);
    e.due("it is below 0", credit.of(0, 0), -1);
  }

  private void limits() {
    e.terms("a LIMIT (0 .. 9999; 0 at first),");
    int[] outside = {LEAST, -1, 10000, GREATEST};
    int[] inside = {1, 9998, 9999, 0};
    ClearingGates x = ofEachKind();
    for (int kind = 0; kind < 5; kind++) {
      e.due("at first, by kind " + kind, x.told(kind, 1), 0);
      int was = 0;
      for (int v : inside) {
        e.due("set to " + v, x.set(kind, 1, v), was);
        e.due("it is that", x.told(kind, 1), v);
        was = v;
      }
      for (int v : outside) {
        e.due("set to " + v, x.set(kind, 1, v), NO);
      }
      e.due("it stays", x.told(kind, 1), 0);
    }
  }

  private void gatesAndCounts() {
    e.terms("a GATE that is there (at first) or MISSING.");
    ClearingGates x = ofEachKind();
    for (int a = 0; a < 5; a++) {
      e.due("at first", x.told(a, 2), 1);
    }
    x.gate(3, false);
    e.due("missing", x.told(3, 2), 0);
    e.due("the one behind stays", x.told(4, 2), 1);
    e.terms("FEES are 0 at first.");
    e.due("fees", new ClearingGates().sum(0), 0);
    e.due("fees, with accounts", ofEachKind().sum(0), 0);
    e.terms("Of each ACCOUNT's GATE: ENTRIES, LEAVINGS, AGAINS (all 0 at first);");
    for (int a = 0; a < 5; a++) {
      for (int what = 3; what <= 5; what++) {
        e.due("told " + a + " " + what, ofEachKind().told(a, what), 0);
      }
    }
    ClearingGates each = Checks.bank(2, "(0(0))");
    each.run(0);
    for (int what = 3; what <= 5; what++) {
      e.due("each account has its own, told 1 " + what, each.told(1, what), 0);
    }
    each.account(0, 0);
    for (int what = 3; what <= 5; what++) {
      e.due("one that came later, told 2 " + what, each.told(2, what), 0);
    }
    e.terms("of the bank: MISSED, BELLS, REFUSED, CAUGHT (0 at first).");
    for (int what = 2; what <= 5; what++) {
      e.due("count " + what, new ClearingGates().count(what), 0);
      e.due("count " + what + " with accounts", ofEachKind().count(what), 0);
    }
  }

  private void numbers() {
    e.terms("NONE is -1; NO, where a long is answered, Long.MIN_VALUE.");
    e.due("NONE", ClearingGates.NONE, -1);
    e.due("needed, never", Checks.bank(1, "x").needed(0, 0), -1);
    e.due("set", new ClearingGates().set(0, 0, 0), Long.MIN_VALUE);
    e.due("of", new ClearingGates().of(0, 0), Long.MIN_VALUE);
    e.due("sum", new ClearingGates().sum(-1), Long.MIN_VALUE);
    e.due("would", new ClearingGates().would(0, 0), Long.MIN_VALUE);
    e.terms("The constants: `NO = Long.MIN_VALUE`: There is no such number.");
    e.due("NO", ClearingGates.NO, Long.MIN_VALUE);
    e.due("no balance", new ClearingGates().of(0, 0), Long.MIN_VALUE);
    e.due("no such sum", new ClearingGates().sum(3), Long.MIN_VALUE);
    e.terms("BAD (-2: a number is none such or not as told), STATE (-3), FULL (-4);");
    e.due("BAD", ClearingGates.BAD, -2);
    e.due("STATE", ClearingGates.STATE, -3);
    e.due("FULL", ClearingGates.FULL, -4);
    e.due("none such", new ClearingGates().told(0, 0), -2);
    e.due("not as told", new ClearingGates().account(0, -1), -2);
    e.due("no image", new ClearingGates().back(), -3);
    ClearingGates full = Checks.bank(8, "x");
    e.due("full", full.account(0, 0), -4);
  }

  private void floors() {
    e.terms("FEE of a payment of v (by who pays), FLOOR (below which BALANCE may not come by it):");
    int[] fees = {0, 1, 0, 0, 1 + 5};
    int[] floors = {0, 10, -20, -40, 0};
    for (int kind = 0; kind < 5; kind++) {
      int just = 50 + fees[kind] + floors[kind];
      ClearingGates x = ofKind(kind, just, 20);
      e.due("just to the floor, by kind " + kind, pay(x, 50), 0);
      e.due("it is the floor", x.of(0, 0), floors[kind]);
      e.due("fees", x.sum(0), fees[kind]);
      ClearingGates y = ofKind(kind, just - 1, 20);
      e.due("one below it, by kind " + kind, pay(y, 50), SHORT);
      e.due("nothing is paid", y.of(0, 0), just - 1);
      ClearingGates z = new ClearingGates();
      z.account(0, 50);
      z.account(kind, 0);
      e.due("who is paid, below its floor, doesn't matter", pay(z, 50), 0);
      e.due("no fee of who is paid", z.sum(0), 0);
    }
    ClearingGates lowered = ofKind(2, 0, 10);
    pay(lowered, 10);
    lowered.set(0, 1, 9);
    e.due("it is below a floor that has risen", pay(lowered, 0), SHORT);
  }

  private void dueFee(int kind, int v, int fee) {
    ClearingGates x = ofKind(kind, 20000, 0);
    e.due("a payment of " + v + " by kind " + kind, pay(x, v), 0);
    e.due("fee of " + v, x.sum(0), fee);
    e.due("balance behind " + v, x.of(0, 0), 20000 - v - fee);
  }

  private void dueFloor(int kind, int limit, int floor) {
    e.due("floor by limit " + limit, ofKind(kind, 0, limit).of(0, 1), floor);
  }

  private void plainAndSaver() {
    e.terms("KINDS: 0 PLAIN: 0; 0.");
    dueFee(0, 0, 0);
    dueFee(0, 9999, 0);
    dueFloor(0, 0, 0);
    dueFloor(0, 9999, 0);
    e.due("just all", pay(ofKind(0, 7, 9999), 7), 0);
    e.due("one more", pay(ofKind(0, 7, 9999), 8), SHORT);
    e.terms("1 SAVER under PLAIN: 1 more than a PLAIN's; a PLAIN's and 10.");
    dueFee(1, 0, 1);
    dueFee(1, 9999, 1);
    dueFloor(1, 0, 10);
    dueFloor(1, 9999, 10);
    e.due("nothing from 11", pay(ofKind(1, 11, 9999), 0), 0);
    e.due("nothing from 10", pay(ofKind(1, 10, 9999), 0), SHORT);
  }

  private void creditAndGold() {
    e.terms("2 CREDIT under PLAIN: as a PLAIN; a PLAIN's less LIMIT.");
    dueFee(2, 0, 0);
    dueFee(2, 9999, 0);
    dueFloor(2, 0, 0);
    dueFloor(2, 9999, -9999);
    e.due("without a limit", pay(ofKind(2, 0, 0), 1), SHORT);
    e.due("down to the greatest limit", pay(ofKind(2, 0, 9999), 9999), 0);
    e.due("just below", pay(ofKind(2, 0, 9998), 9999), SHORT);
    e.terms("3 GOLD under CREDIT: as a CREDIT; LIMIT less than a CREDIT's.");
    dueFee(3, 0, 0);
    dueFee(3, 9999, 0);
    dueFloor(3, 0, 0);
    dueFloor(3, 9999, -19998);
    e.due("without a limit", pay(ofKind(3, 0, 0), 1), SHORT);
    e.due("twice the limit", pay(ofKind(3, 0, 4999), 9998), 0);
    e.due("one more", pay(ofKind(3, 0, 4999), 9999), SHORT);
    ClearingGates x = ofKind(3, 0, 9999);
    pay(x, 9999);
    e.due("down to twice the greatest limit", pay(x, 9999), 0);
    e.due("it is there", x.of(0, 0), -19998);
    e.due("just below", pay(x, 1), SHORT);
  }

  private void tithe() {
    e.terms("4 TITHE under SAVER: (v over 10, cut) more than a SAVER's; 10 less than a SAVER's.");
    int[] v = {0, 9, 10, 19, 20, 99, 100, 9999};
    int[] fee = {1, 1, 2, 2, 3, 10, 11, 1000};
    for (int i = 0; i < v.length; i++) {
      dueFee(4, v[i], fee[i]);
    }
    dueFloor(4, 0, 0);
    dueFloor(4, 9999, 0);
    e.due("19 and 2 from 21", pay(ofKind(4, 21, 9999), 19), 0);
    e.due("19 and 2 from 20", pay(ofKind(4, 20, 9999), 19), SHORT);
  }

  private void newObject() {
    e.promise(1, "No ACCOUNTS.");
    ClearingGates x = new ClearingGates();
    e.due("count", x.count(0), 0);
    e.due("all balances", x.sum(1), 0);
    for (int a = 0; a < 8; a++) {
      e.due("account " + a, x.told(a, 0), BAD);
    }
    e.due("the first", x.account(0, 0), 0);
    e.due("another object has none", new ClearingGates().count(0), 0);
  }

  private void account() {
    e.promise(2, "An ACCOUNT comes: its number.");
    ClearingGates x = new ClearingGates();
    for (int kind = 0; kind <= 4; kind++) {
      e.due("kind " + kind, x.account(kind, 3), kind);
      e.due("one more", x.count(0), kind + 1);
      e.due("of that kind", x.told(kind, 0), kind);
    }
    e.promise(2, "BAD; FULL.");
    int[] kinds = {LEAST, -1, 5, GREATEST};
    ClearingGates y = new ClearingGates();
    ClearingGates full = Checks.bank(8, "x");
    for (int kind : kinds) {
      e.due("kind " + kind, y.account(kind, 0), BAD);
      e.due("kind " + kind + " of a ninth", full.account(kind, 0), BAD);
    }
    e.due("none came", y.count(0), 0);
    e.due("balance of a ninth", full.account(0, RICHEST + 1), BAD);
    e.due("a ninth", full.account(0, 0), Edges.FULL);
  }

  private void set() {
    e.promise(3, "BALANCE (what 0), LIMIT (1) of an ACCOUNT becomes v: what it was.");
    ClearingGates x = Checks.bank(8, "x");
    for (int a = 0; a < 8; a += 7) {
      e.due("balance", x.set(a, 0, 9999), 100);
      e.due("limit", x.set(a, 1, 5), 0);
      e.due("limit again", x.set(a, 1, 6), 5);
      e.due("balance again", x.set(a, 0, 0), 9999);
    }
    ClearingGates red = ofKind(3, 0, 9999);
    pay(red, 9999);
    e.due("it was below 0", red.set(0, 0, 0), -9999);
    e.promise(3, "NO: ACCOUNT, what, v.");
    int[] accounts = {LEAST, -1, 8, GREATEST};
    for (int a : accounts) {
      e.due("account " + a, x.set(a, 0, 0), NO);
      e.due("limit of account " + a, x.set(a, 1, 0), NO);
    }
    int[] whats = {LEAST, -1, 2, GREATEST};
    for (int what : whats) {
      e.due("what " + what, x.set(0, what, 0), NO);
    }
    e.due("balance -1", x.set(0, 0, -1), NO);
    e.due("balance too great", x.set(0, 0, RICHEST + 1), NO);
    e.due("limit -1", x.set(0, 1, -1), NO);
    e.due("limit too great, though no balance would be", x.set(0, 1, 10000), NO);
    e.due("a balance greater than a limit can be", x.set(0, 0, 10000), 0);
    ClearingGates fewer = Checks.bank(3, "x");
    e.due("account 3 of three", fewer.set(3, 0, 0), NO);
  }

  private void gate() {
    e.promise(4, "A GATE is there (is true), or MISSING: whether it was there (1, 0).");
    ClearingGates x = Checks.bank(8, "x");
    for (int a = 0; a < 8; a += 7) {
      e.due("there, once more", x.gate(a, true), 1);
      e.due("missing", x.gate(a, false), 1);
      e.due("missing, once more", x.gate(a, false), 0);
      e.due("it is", x.told(a, 2), 0);
      e.due("there", x.gate(a, true), 0);
      e.due("it is", x.told(a, 2), 1);
    }
    e.promise(4, "BAD.");
    ClearingGates y = Checks.bank(3, "x");
    int[] accounts = {LEAST, -1, 3, 8, GREATEST};
    for (int a : accounts) {
      e.due("account " + a, y.gate(a, true), BAD);
      e.due("account " + a + " missing", y.gate(a, false), BAD);
    }
    y.account(0, 0);
    e.due("account 3, when it comes", y.told(3, 2), 1);
  }

  private void told() {
    e.promise(5, "Of an ACCOUNT: KIND (what 0), LIMIT (1), whether its GATE is there (2), ENTRIES (3), LEAVINGS (4), "
        + "AGAINS (5), FEE of a payment of 100 (6).");
    ClearingGates x = ofEachKind();
    Checks.program(x, "{2(4(4(4)))}(3x)");
    x.run(0);
    x.set(4, 1, 9999);
    x.gate(4, false);
    int[] fourth = {4, 9999, 0, 6, 6, 4, 11};
    int[] third = {3, 0, 1, 1, 1, 0, 0};
    for (int what = 0; what <= 6; what++) {
      e.due("told 4 " + what, x.told(4, what), fourth[what]);
      e.due("told 3 " + what, x.told(3, what), third[what]);
    }
    e.promise(5, "BAD.");
    int[] accounts = {LEAST, -1, 5, 8, GREATEST};
    int[] whats = {LEAST, -1, 7, GREATEST};
    for (int a : accounts) {
      for (int what = 0; what <= 6; what++) {
        e.due("told " + a + " " + what, x.told(a, what), BAD);
      }
    }
    for (int what : whats) {
      e.due("told 0 " + what, x.told(0, what), BAD);
    }
  }

  private void of() {
    e.promise(6, "BALANCE (what 0), FLOOR (1), POSITION (2) of an ACCOUNT.");
    ClearingGates x = Checks.bank(8, "x");
    for (int other = 0; other < 7; other++) {
      x.owe(other, 7, 99999);
    }
    e.due("greatest position", x.of(7, 2), 699993);
    e.due("position of one who owes", x.of(0, 2), -99999);
    for (int other = 0; other < 7; other++) {
      x.owe(other, 7, 0);
      x.owe(7, other, 99999);
    }
    e.due("least position", x.of(7, 2), -699993);
    x.set(7, 0, RICHEST);
    e.due("greatest balance", x.of(7, 0), RICHEST);
    e.due("floor", ofKind(3, 0, 9999).of(0, 1), -19998);
    e.due("floor above 0", ofKind(1, 0, 9999).of(0, 1), 10);
    e.promise(6, "NO.");
    ClearingGates y = Checks.bank(3, "x");
    int[] accounts = {LEAST, -1, 3, 8, GREATEST};
    int[] whats = {LEAST, -1, 3, GREATEST};
    for (int a : accounts) {
      for (int what = 0; what <= 2; what++) {
        e.due("of " + a + " " + what, y.of(a, what), NO);
      }
    }
    for (int what : whats) {
      e.due("of 0 " + what, y.of(0, what), NO);
    }
  }

  private void count() {
    e.promise(7, "ACCOUNTS (what 0), PROGRAMS (1), MISSED (2), BELLS (3), REFUSED (4), CAUGHT (5),");
    ClearingGates x = Checks.bank(8, "{3(7a7n7)}{5n6}[x]{4[x]}");
    x.gate(0, false);
    Checks.program(x, "{9n0}{2(0)}");
    Checks.program(x, "x");
    Checks.program(x, "x");
    x.run(0);
    x.run(1);
    int[] counts = {8, 4, 11, 9, 5, 5};
    for (int what = 0; what <= 5; what++) {
      e.due("count " + what, x.count(what), counts[what]);
    }
    e.promise(7, "marks of THE TRACE (6; 60 at most),");
    String[] texts = {"[]", "n0", "{9{6n0}}{5n0}", "{9{6n0}}{6n0}", "{9{6n0}}{7n0}", "{9{9n0}}"};
    int[] marks = {0, 1, 59, 60, 60, 60};
    e.due("no run yet", new ClearingGates().count(6), 0);
    for (int i = 0; i < texts.length; i++) {
      ClearingGates y = Checks.bank(1, texts[i]);
      y.run(0);
      e.due("marks of " + texts[i], y.count(6), marks[i]);
    }
    e.promise(7, "bytes of THE TAPE (7).");
    ClearingGates z = new ClearingGates();
    e.due("empty", z.count(7), 0);
    Checks.feed(z, "x".repeat(80));
    e.due("full", z.count(7), 80);
    e.promise(7, "BAD.");
    int[] whats = {LEAST, -1, 8, GREATEST};
    for (int what : whats) {
      e.due("count " + what, x.count(what), BAD);
    }
  }

  private void sum() {
    e.promise(8, "FEES (what 0), all BALANCES and FEES together (1), all that is OWED (2).");
    ClearingGates x = new ClearingGates();
    e.due("nothing", x.sum(1), 0);
    for (int a = 0; a < 8; a++) {
      x.account(4, RICHEST);
      for (int other = 0; other < a; other++) {
        x.owe(a, other, 99999);
        x.owe(other, a, 99999);
      }
    }
    e.due("greater than an int can be", x.sum(1), 8000000000L);
    e.due("each owes each", x.sum(2), 56L * 99999);
    x.set(1, 0, 0);
    pay(x, 9999);
    e.due("fees", x.sum(0), 1000);
    e.due("a payment's fee is not lost", x.sum(1), 7000000000L);
    ClearingGates red = ofKind(3, 0, 9999);
    red.set(1, 0, 0);
    pay(red, 9999);
    red.set(1, 0, 0);
    e.due("below 0", red.sum(1), -9999);
    e.promise(8, "NO.");
    int[] whats = {LEAST, -1, 3, GREATEST};
    for (int what : whats) {
      e.due("sum " + what, x.sum(what), NO);
    }
  }

  private void taken() {
    e.promise(9, "An ACCOUNT taken for one of KIND k (0 .. 4), or one under that: its LIMIT.");
    ClearingGates x = ofEachKind();
    int[][] above = {{0}, {1, 0}, {2, 0}, {3, 2, 0}, {4, 1, 0}};
    for (int kind = 0; kind < 5; kind++) {
      for (int k : above[kind]) {
        x.set(kind, 1, 0);
        e.due("kind " + kind + " for " + k, x.taken(kind, k), 0);
        x.set(kind, 1, 9999);
        e.due("kind " + kind + " for " + k + ", greatest limit", x.taken(kind, k), 9999);
      }
    }
    e.promise(9, "BAD; -13.");
    int[][] unlike = {{0, 1}, {0, 2}, {0, 3}, {0, 4}, {1, 2}, {1, 3}, {1, 4}, {2, 1}, {2, 3}, {2, 4}, {3, 1}, {3, 4},
        {4, 2}, {4, 3}};
    for (int[] pair : unlike) {
      e.due("kind " + pair[0] + " for " + pair[1], x.taken(pair[0], pair[1]), -13);
    }
    int[] accounts = {LEAST, -1, 5, 8, GREATEST};
    int[] kinds = {LEAST, -1, 5, GREATEST};
    for (int a : accounts) {
      e.due("account " + a, x.taken(a, 0), BAD);
      e.due("account " + a + " for 4", x.taken(a, 4), BAD);
    }
    for (int k : kinds) {
      e.due("for " + k, x.taken(0, k), BAD);
    }
  }
}
