/** Promises 1 to 9. */
public final class AccountsTest {
  private static final Checks CHECKS = new Checks("AccountsTest");

  public static void main(String[] args) {
    promise1NewObject();
    promise2Account();
    promise3Set();
    promise4Gate();
    promise5Told();
    promise6Of();
    promise7Count();
    promise8Sum();
    promise9Taken();
    CHECKS.end();
  }

  private static void promise1NewObject() {
    ClearingGates x = new ClearingGates();
    for (int what = 0; what <= 7; what++) {
      CHECKS.due("new count " + what, x.count(what), 0);
    }
    for (int what = 0; what <= 2; what++) {
      CHECKS.due("new sum " + what, x.sum(what), 0);
    }
    CHECKS.due("new told", x.told(0, 0), ClearingGates.BAD);
    CHECKS.due("new trace", x.trace(0), -12);
    CHECKS.due("new back", x.back(), ClearingGates.STATE);
    CHECKS.due("new net", x.net(), 0);
    for (int sheet = 0; sheet < 4; sheet++) {
      CHECKS.due("new sheet " + sheet, x.put(sheet, 0, 0), -11);
    }
  }

  private static void promise2Account() {
    ClearingGates x = new ClearingGates();
    CHECKS.due("kind -1", x.account(-1, 0), ClearingGates.BAD);
    CHECKS.due("kind 5", x.account(5, 0), ClearingGates.BAD);
    CHECKS.due("balance -1", x.account(0, -1), ClearingGates.BAD);
    CHECKS.due("balance too great", x.account(0, 1000000001), ClearingGates.BAD);
    CHECKS.due("refusals change nothing", x.count(0), 0);
    for (int i = 0; i < 8; i++) {
      CHECKS.due("account " + i, x.account(i % 5, i == 3 ? 1000000000 : i), i);
    }
    CHECKS.due("greatest balance", x.of(3, 0), 1000000000);
    CHECKS.due("ninth", x.account(0, 0), ClearingGates.FULL);
    CHECKS.due("ninth, bad kind", x.account(5, 0), ClearingGates.BAD);
    CHECKS.due("ninth, bad balance", x.account(0, -1), ClearingGates.BAD);
    CHECKS.due("eight are there", x.count(0), 8);
    for (int i = 0; i < 8; i++) {
      CHECKS.due("kind of " + i, x.told(i, 0), i % 5);
      CHECKS.due("limit of " + i, x.told(i, 1), 0);
      CHECKS.due("gate of " + i, x.told(i, 2), 1);
    }
  }

  private static void promise3Set() {
    ClearingGates x = new ClearingGates();
    x.account(0, 7);
    x.account(2, 8);
    CHECKS.due("balance was", x.set(0, 0, 1000000000), 7);
    CHECKS.due("balance was again", x.set(0, 0, 0), 1000000000);
    CHECKS.due("limit was", x.set(1, 1, 9999), 0);
    CHECKS.due("limit was again", x.set(1, 1, 12), 9999);
    CHECKS.due("limit is", x.told(1, 1), 12);
    CHECKS.due("other limit", x.told(0, 1), 0);
    CHECKS.due("other balance", x.of(1, 0), 8);
    CHECKS.due("account -1", x.set(-1, 0, 0), ClearingGates.NO);
    CHECKS.due("account 2", x.set(2, 0, 0), ClearingGates.NO);
    CHECKS.due("what -1", x.set(0, -1, 0), ClearingGates.NO);
    CHECKS.due("what 2", x.set(0, 2, 0), ClearingGates.NO);
    CHECKS.due("balance -1", x.set(0, 0, -1), ClearingGates.NO);
    CHECKS.due("balance too great", x.set(0, 0, 1000000001), ClearingGates.NO);
    CHECKS.due("limit -1", x.set(1, 1, -1), ClearingGates.NO);
    CHECKS.due("limit too great", x.set(1, 1, 10000), ClearingGates.NO);
    CHECKS.due("balance stays", x.of(0, 0), 0);
    CHECKS.due("limit stays", x.told(1, 1), 12);
    x.set(1, 0, 0);
    Checks.program(x, "(0(1p1010))");
    CHECKS.due("into the red", x.run(0), 0);
    CHECKS.due("a balance below 0 was", x.set(1, 0, 5), -10);
  }

  private static void promise4Gate() {
    ClearingGates x = new ClearingGates();
    x.account(0, 0);
    CHECKS.due("was there", x.gate(0, true), 1);
    CHECKS.due("was there still", x.gate(0, false), 1);
    CHECKS.due("is missing", x.told(0, 2), 0);
    CHECKS.due("was missing", x.gate(0, false), 0);
    CHECKS.due("was missing still", x.gate(0, true), 0);
    CHECKS.due("is there", x.told(0, 2), 1);
    CHECKS.due("account -1", x.gate(-1, true), ClearingGates.BAD);
    CHECKS.due("account 1", x.gate(1, false), ClearingGates.BAD);
  }

  private static void promise5Told() {
    ClearingGates x = new ClearingGates();
    int[] fees = {0, 1, 0, 0, 11};
    for (int kind = 0; kind < 5; kind++) {
      x.account(kind, 50);
      x.set(kind, 1, 40 + kind);
      CHECKS.due("kind", x.told(kind, 0), kind);
      CHECKS.due("limit", x.told(kind, 1), 40 + kind);
      CHECKS.due("fee of 100 by kind " + kind, x.told(kind, 6), fees[kind]);
    }
    Checks.program(x, "(1(1(2))x)");
    x.run(0);
    CHECKS.due("entries of 1", x.told(1, 3), 2);
    CHECKS.due("leavings of 1", x.told(1, 4), 2);
    CHECKS.due("agains of 1", x.told(1, 5), 1);
    CHECKS.due("entries of 2", x.told(2, 3), 1);
    CHECKS.due("leavings of 2", x.told(2, 4), 1);
    CHECKS.due("agains of 2", x.told(2, 5), 0);
    CHECKS.due("entries of 0", x.told(0, 3), 0);
    CHECKS.due("what -1", x.told(0, -1), ClearingGates.BAD);
    CHECKS.due("what 7", x.told(0, 7), ClearingGates.BAD);
    CHECKS.due("account -1", x.told(-1, 0), ClearingGates.BAD);
    CHECKS.due("account 5", x.told(5, 0), ClearingGates.BAD);
  }

  private static void promise6Of() {
    ClearingGates x = new ClearingGates();
    int[] floors = {0, 10, -30, -60, 0};
    for (int kind = 0; kind < 5; kind++) {
      x.account(kind, 100 + kind);
      x.set(kind, 1, 30);
      CHECKS.due("balance", x.of(kind, 0), 100 + kind);
      CHECKS.due("floor of kind " + kind, x.of(kind, 1), floors[kind]);
      CHECKS.due("position at first", x.of(kind, 2), 0);
    }
    x.owe(0, 1, 99999);
    x.owe(2, 1, 5);
    x.owe(1, 4, 7);
    CHECKS.due("position of 0", x.of(0, 2), -99999);
    CHECKS.due("position of 1", x.of(1, 2), 99997);
    CHECKS.due("position of 2", x.of(2, 2), -5);
    CHECKS.due("position of 3", x.of(3, 2), 0);
    CHECKS.due("position of 4", x.of(4, 2), 7);
    CHECKS.due("what -1", x.of(0, -1), ClearingGates.NO);
    CHECKS.due("what 3", x.of(0, 3), ClearingGates.NO);
    CHECKS.due("account -1", x.of(-1, 0), ClearingGates.NO);
    CHECKS.due("account 5", x.of(5, 0), ClearingGates.NO);
  }

  private static void promise7Count() {
    ClearingGates x = Checks.bank(2, "n7(6)(0n0a0n1)a1[x][x][x]");
    x.run(0);
    Checks.feed(x, "xyz");
    CHECKS.due("accounts", x.count(0), 2);
    CHECKS.due("programs", x.count(1), 1);
    CHECKS.due("missed", x.count(2), 2);
    CHECKS.due("bells", x.count(3), 3);
    CHECKS.due("refused", x.count(4), 2);
    CHECKS.due("caught", x.count(5), 3);
    CHECKS.due("marks", x.count(6), 9);
    CHECKS.due("tape", x.count(7), 3);
    CHECKS.due("what -1", x.count(-1), ClearingGates.BAD);
    CHECKS.due("what 8", x.count(8), ClearingGates.BAD);
    ClearingGates many = Checks.bank(1, "{9{7n0}}");
    many.run(0);
    CHECKS.due("60 marks at most", many.count(6), 60);
    CHECKS.due("all are refused", many.count(4), 63);
  }

  private static void promise8Sum() {
    ClearingGates x = new ClearingGates();
    for (int i = 0; i < 8; i++) {
      x.account(4, 1000000000);
    }
    CHECKS.due("all money is a long", x.sum(1), 8000000000L);
    x.set(1, 0, 0);
    Checks.program(x, "(0(1p011009))");
    x.run(0);
    CHECKS.due("fees", x.sum(0), 101);
    CHECKS.due("no money is lost", x.sum(1), 7000000000L);
    CHECKS.due("nothing owed", x.sum(2), 0);
    x.owe(0, 1, 99999);
    x.owe(1, 0, 3);
    x.owe(7, 6, 4);
    CHECKS.due("owed", x.sum(2), 100006);
    CHECKS.due("what -1", x.sum(-1), ClearingGates.NO);
    CHECKS.due("what 3", x.sum(3), ClearingGates.NO);
  }

  private static void promise9Taken() {
    ClearingGates x = new ClearingGates();
    // A row for each KIND: for which KINDS it can be taken.
    String[] taken = {"10000", "11000", "10100", "10110", "11001"};
    for (int kind = 0; kind < 5; kind++) {
      x.account(kind, 0);
      x.set(kind, 1, 70 + kind);
      for (int k = 0; k < 5; k++) {
        int want = taken[kind].charAt(k) == '1' ? 70 + kind : -13;
        CHECKS.due("kind " + kind + " taken for " + k, x.taken(kind, k), want);
      }
    }
    CHECKS.due("k -1", x.taken(0, -1), ClearingGates.BAD);
    CHECKS.due("k 5", x.taken(0, 5), ClearingGates.BAD);
    CHECKS.due("account -1", x.taken(-1, 0), ClearingGates.BAD);
    CHECKS.due("account 5", x.taken(5, 0), ClearingGates.BAD);
  }
}
