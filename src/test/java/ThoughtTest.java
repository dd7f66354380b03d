/** Promises 14 to 16: what would be, what is needed, which gates matter. */
public final class ThoughtTest {
  private static final Checks CHECKS = new Checks("ThoughtTest");

  public static void main(String[] args) {
    promise14Would();
    promise14Failure();
    promise15Needed();
    promise15AllSteps();
    promise16Hinges();
    nothingChanges();
    CHECKS.end();
  }

  private static void promise14Would() {
    ClearingGates x = new ClearingGates();
    x.account(4, 1000);
    x.account(0, 5);
    Checks.program(x, "(0(1(1p01100)))");
    x.run(0);
    CHECKS.due("outcome", x.would(0, 0), 0);
    CHECKS.due("fees, all of them", x.would(0, 1), 22);
    CHECKS.due("marks", x.would(0, 2), 7);
    CHECKS.due("entries more than now", x.would(0, 3), 3);
    CHECKS.due("balance of 0", x.would(0, 10), 1000 - 222);
    CHECKS.due("balance of 1", x.would(0, 11), 205);
    int[] bad = {-1, 4, 9, 12, 17, 18, Integer.MIN_VALUE, Integer.MAX_VALUE};
    for (int what : bad) {
      CHECKS.due("what " + what, x.would(0, what), ClearingGates.NO);
    }
    CHECKS.due("program -1", x.would(-1, 0), ClearingGates.NO);
    CHECKS.due("program 1", x.would(1, 0), ClearingGates.NO);
    CHECKS.due("entries of eight", Checks.bank(8, "(0(7(7)))(3)").would(0, 3), 4);
    CHECKS.due("balance of the eighth", Checks.bank(8, "(0(7p7030))").would(0, 17), 70);
    CHECKS.due("all marks", Checks.bank(1, "{9{9n0}}").would(0, 2), 81);
  }

  private static void promise14Failure() {
    ClearingGates x = Checks.bank(2, "(0(1p0110x))");
    CHECKS.due("outcome", x.would(0, 0), 4);
    CHECKS.due("fees", x.would(0, 1), 0);
    CHECKS.due("marks", x.would(0, 2), 5);
    CHECKS.due("entries", x.would(0, 3), 2);
    CHECKS.due("balance", x.would(0, 10), 100);
  }

  private static void promise15Needed() {
    ClearingGates x = Checks.bank(3, "(0(1p0133))");
    Checks.program(x, "x");
    Checks.program(x, "[x]");
    CHECKS.due("33 need 64", x.needed(0, 0), 64);
    CHECKS.due("the receiver needs none", x.needed(0, 1), 0);
    CHECKS.due("another needs none", x.needed(0, 2), 0);
    CHECKS.due("never", x.needed(1, 0), ClearingGates.NONE);
    CHECKS.due("always", x.needed(2, 0), 0);
    CHECKS.due("program -1", x.needed(-1, 0), ClearingGates.BAD);
    CHECKS.due("program 3", x.needed(3, 0), ClearingGates.BAD);
    CHECKS.due("account -1", x.needed(0, -1), ClearingGates.BAD);
    CHECKS.due("account 3", x.needed(0, 3), ClearingGates.BAD);
    x.set(0, 0, 32);
    CHECKS.due("of another one, who pays too little", x.needed(0, 1), ClearingGates.NONE);
  }

  private static void promise15AllSteps() {
    // Payments of 9999 in loops need the greatest powers of two, then more than those.
    String[] texts = {"(0(1p011))", "(0(1p012))", "(0(1p013))", "(0(1p01512))", "(0(1{9p019999}))",
        "(0(1{9{9p019999}}))", "(0(1{9{9p019999}}{9p019999}{9p019999}{5p019999}))",
        "(0(1{9{9p019999}}{9p019999}{9p019999}{6p019999}))"};
    int[] needed = {1, 2, 4, 512, 131072, 1048576, 1048576, -1};
    for (int i = 0; i < texts.length; i++) {
      ClearingGates y = new ClearingGates();
      y.account(0, 0);
      y.account(0, 0);
      Checks.program(y, texts[i]);
      CHECKS.due("needed for " + texts[i], y.needed(0, 0), needed[i]);
    }
  }

  private static void promise16Hinges() {
    ClearingGates x = Checks.bank(3, "(0(1p011))");
    CHECKS.due("a block that isn't done throws nothing", x.hinges(0), 0);
    ClearingGates y = Checks.bank(3, "(0(1(2x)))");
    CHECKS.due("each of them hinders the throw", y.hinges(0), 7);
    y.gate(1, false);
    CHECKS.due("the missing one alone would let it", y.hinges(0), 2);
    y.gate(2, false);
    CHECKS.due("two are missing", y.hinges(0), 0);
    ClearingGates z = Checks.bank(8, "(7(3))[(6x)](5p011)");
    CHECKS.due("wrong order, then an unguarded payment", z.hinges(0), 1 << 7 | 1 << 3);
    CHECKS.due("program -1", x.hinges(-1), ClearingGates.BAD);
    CHECKS.due("program 1", x.hinges(1), ClearingGates.BAD);
  }

  private static void nothingChanges() {
    ClearingGates x = new ClearingGates();
    x.account(1, 500);
    x.account(4, 500);
    x.gate(1, true);
    Checks.program(x, "(0(1(1p0110n1[x]n7)))n0");
    x.would(0, 0);
    x.needed(0, 0);
    x.hinges(0);
    x.film(0, 0);
    x.tells(0, 0, 0, 0);
    x.tells(0, 0, 1, 1);
    for (int what = 2; what <= 6; what++) {
      CHECKS.due("count " + what + " behind thoughts", x.count(what), 0);
    }
    for (int account = 0; account < 2; account++) {
      CHECKS.due("kind", x.told(account, 0), account == 0 ? 1 : 4);
      CHECKS.due("gate", x.told(account, 2), 1);
      CHECKS.due("entries", x.told(account, 3), 0);
      CHECKS.due("leavings", x.told(account, 4), 0);
      CHECKS.due("agains", x.told(account, 5), 0);
      CHECKS.due("balance", x.of(account, 0), 500);
    }
    CHECKS.due("fees", x.sum(0), 0);
  }
}
