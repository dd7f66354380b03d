/** Promises 22 and 23: an image kept and laid back. */
public final class ImageTest {
  private static final Checks CHECKS = new Checks("ImageTest");

  public static void main(String[] args) {
    promise22Image();
    promise23Back();
    promise23NotKept();
    promise23NewAccounts();
    promise23Programs();
    CHECKS.end();
  }

  private static void promise22Image() {
    ClearingGates x = new ClearingGates();
    CHECKS.due("none to go back to", x.back(), ClearingGates.STATE);
    CHECKS.due("of no accounts", x.image(), 0);
    x.account(0, 1);
    CHECKS.due("back to none", x.back(), 0);
    CHECKS.due("no accounts", x.count(0), 0);
    x.account(0, 1);
    x.account(0, 2);
    CHECKS.due("of two", x.image(), 2);
    x.account(0, 3);
    CHECKS.due("back to two", x.back(), 2);
    CHECKS.due("the latest image holds", x.back(), 2);
  }

  private static void promise23Back() {
    ClearingGates x = Checks.bank(3, "(0(1(1p017n0)))n0n7[x]");
    x.set(0, 1, 12);
    x.account(1, 60);
    x.gate(2, false);
    x.owe(0, 1, 33);
    x.run(0);
    Checks.program(x, "(1(3p319))");
    x.run(1);
    String before = state(x);
    x.image();
    x.run(0);
    x.run(1);
    x.set(0, 1, 13);
    x.gate(2, true);
    x.gate(0, false);
    x.owe(0, 1, 0);
    x.owe(3, 2, 9);
    x.account(4, 4);
    Checks.program(x, "x");
    CHECKS.due("all is otherwise", !state(x).equals(before));
    CHECKS.due("back", x.back(), 4);
    String now = state(x);
    CHECKS.due("all is as before: " + now + " for " + before, now.equals(before));
    x.run(0);
    CHECKS.due("back again", x.back(), 4);
    CHECKS.due("all is as before again", state(x).equals(before));
  }

  /** All that can be seen of five ACCOUNTS and of the bank, in some 90 calls: an object is used for 512. */
  private static String state(ClearingGates x) {
    StringBuilder all = new StringBuilder();
    for (int what = 0; what <= 5; what++) {
      all.append(x.count(what)).append(' ');
    }
    for (int what = 0; what <= 2; what++) {
      all.append(x.sum(what)).append(' ');
    }
    for (int account = 0; account < 5; account++) {
      for (int what = 0; what <= 6; what++) {
        all.append(x.told(account, what)).append(' ');
      }
      for (int what = 0; what <= 2; what++) {
        all.append(x.of(account, what)).append(' ');
      }
      for (int other = 0; other < 5; other++) {
        all.append(x.owed(account, other)).append(' ');
      }
    }
    return all.toString();
  }

  private static void promise23NotKept() {
    ClearingGates x = Checks.bank(1, "n0");
    Checks.program(x, "(0)");
    x.run(0);
    x.image();
    x.run(1);
    Checks.feed(x, "abc");
    x.sheet(0, 1, 5);
    x.back();
    CHECKS.dueTrace("the trace stays", x, "10 20");
    CHECKS.due("the tape stays", x.count(7), 3);
    CHECKS.due("sheets stay", x.put(0, 4, 1), 1);
  }

  private static void promise23NewAccounts() {
    ClearingGates x = Checks.bank(1, "(0(1n1))");
    x.image();
    x.account(2, 50);
    x.set(1, 1, 77);
    x.gate(1, false);
    x.owe(0, 1, 5);
    x.gate(1, true);
    x.run(0);
    x.back();
    CHECKS.due("it is gone", x.told(1, 0), ClearingGates.BAD);
    CHECKS.due("nothing is owed", x.sum(2), 0);
    CHECKS.due("a new one", x.account(1, 20), 1);
    int[] fresh = {1, 0, 1, 0, 0, 0, 1};
    for (int what = 0; what < fresh.length; what++) {
      CHECKS.due("told " + what + " of the new one", x.told(1, what), fresh[what]);
    }
    CHECKS.due("owed to the new one", x.owed(0, 1), 0);
  }

  private static void promise23Programs() {
    ClearingGates x = Checks.bank(1, "n0");
    x.image();
    Checks.program(x, "(0)");
    x.back();
    CHECKS.due("it is gone", x.run(1), ClearingGates.BAD);
    CHECKS.due("a faulty one", Checks.program(x, "(0"), -102);
    CHECKS.due("another one", Checks.program(x, "(0n0)"), 1);
    x.run(1);
    CHECKS.dueTrace("the other one", x, "10 30 20");
    x.image();
    Checks.program(x, "x");
    x.back();
    x.run(1);
    CHECKS.dueTrace("the other one is kept", x, "10 30 20");
    x.run(0);
    CHECKS.dueTrace("the first one, too", x, "40");
  }
}
