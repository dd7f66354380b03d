/** Promises 12 and 13: what a run does, and its trace. */
public final class RunsTest {
  private static final int SHORT = 1, UNGUARDED = 2, WRONG = 3, UNDONE = 4, LONG = 5;
  private static final Checks CHECKS = new Checks("RunsTest");

  public static void main(String[] args) {
    promise12Blocks();
    promise12Payments();
    promise12FeesAndFloors();
    promise12FullAccount();
    promise12Bells();
    promise12Tries();
    promise12NarrowTries();
    promise12Loops();
    promise12Long();
    promise12Depth();
    promise12Undo();
    promise12Bad();
    promise13Trace();
    CHECKS.end();
  }

  private static ClearingGates after(int accounts, String text, int outcome, String trace) {
    ClearingGates x = Checks.bank(accounts, text);
    CHECKS.due("run of " + text, x.run(0), outcome);
    CHECKS.dueTrace(text, x, trace);
    return x;
  }

  private static void promise12Blocks() {
    after(3, "(0(1(2)))", 0, "10 11 12 22 21 20");
    after(3, "(1)(0)", 0, "11 21 10 20");
    after(3, "(1(0n0)n1)", WRONG, "11 21");
    after(3, "(0(2(1)))", WRONG, "10 12 22 20");
    ClearingGates again = after(3, "(0(2(0(2(0)))))", 0, "10 12 10 12 10 20 22 20 22 20");
    CHECKS.due("entries", again.told(0, 3), 3);
    CHECKS.due("leavings", again.told(0, 4), 3);
    CHECKS.due("agains", again.told(0, 5), 2);
    after(3, "(0(0)(2(0(0))p021))", 0, "10 10 20 12 10 10 20 20 102 22 20");
    after(3, "(2)(0(1))", 0, "12 22 10 11 21 20");
    ClearingGates none = after(3, "(7(0)p017x)(3x)", 0, "");
    CHECKS.due("no such account is missed", none.count(2), 2);
    ClearingGates x = Checks.bank(3, "(2(1(0)))");
    x.gate(1, false);
    CHECKS.due("a missing gate is no wrong order", x.run(0), 0);
    CHECKS.dueTrace("(2(1(0)))", x, "12 22");
    CHECKS.due("missed", x.count(2), 1);
    CHECKS.due("not entered", x.told(1, 3), 0);
  }

  private static void promise12Payments() {
    ClearingGates x = after(3, "(0(1p0130p105))", 0, "10 11 101 110 21 20");
    CHECKS.due("balance of 0", x.of(0, 0), 75);
    CHECKS.due("balance of 1", x.of(1, 0), 125);
    after(3, "(0(2p021))", 0, "10 12 102 22 20");
    after(3, "(0(2p201))", 0, "10 12 120 22 20");
    after(3, "p011", UNGUARDED, "");
    after(3, "(0p011)", UNGUARDED, "10 20");
    after(3, "(1p011)", UNGUARDED, "11 21");
    after(3, "(0p001)", UNGUARDED, "10 20");
    after(3, "(0p031)", UNGUARDED, "10 20");
    after(3, "(0p301)", UNGUARDED, "10 20");
    after(3, "(0p079999)", UNGUARDED, "10 20");
    after(3, "(0(1)p011)", UNGUARDED, "10 11 21 20");
    after(3, "(0(1)p100)", UNGUARDED, "10 11 21 20");
    after(3, "(0(1p01100))", 0, "10 11 101 21 20");
    after(3, "(0(1p01101))", SHORT, "10 11 21 20");
    after(3, "(0(1p01100p010))", 0, "10 11 101 101 21 20");
    after(8, "(6(7p769))", 0, "16 17 176 27 26");
  }

  private static void promise12FeesAndFloors() {
    // For each KIND with LIMIT 20 and BALANCE 100: the greatest payment, and its fee.
    int[] greatest = {100, 89, 120, 140, 90};
    int[] fees = {0, 1, 0, 0, 10};
    for (int kind = 0; kind < 5; kind++) {
      ClearingGates x = new ClearingGates();
      x.account(kind, 100);
      x.account(0, 0);
      x.set(0, 1, 20);
      int over = Checks.program(x, "(0(1p01" + (greatest[kind] + 1) + "))");
      int just = Checks.program(x, "(0(1p01" + greatest[kind] + "))");
      CHECKS.due("short by kind " + kind, x.run(over), SHORT);
      CHECKS.due("nothing is paid", x.of(0, 0), 100);
      CHECKS.due("just enough by kind " + kind, x.run(just), 0);
      CHECKS.due("balance", x.of(0, 0), 100 - greatest[kind] - fees[kind]);
      CHECKS.due("received", x.of(1, 0), greatest[kind]);
      CHECKS.due("fees", x.sum(0), fees[kind]);
    }
  }

  private static void promise12FullAccount() {
    ClearingGates x = Checks.bank(2, "(0(1p012))");
    x.set(1, 0, 999999998);
    CHECKS.due("up to the greatest", x.run(0), 0);
    CHECKS.due("the greatest", x.of(1, 0), 1000000000);
    CHECKS.due("above it", x.run(0), SHORT);
    CHECKS.due("payer keeps", x.of(0, 0), 98);
  }

  private static void promise12Bells() {
    ClearingGates x = after(2, "n0(0n0a0n1a1)a7n2", 0, "40 10 30 30 41 41 20");
    CHECKS.due("bells", x.count(3), 3);
    CHECKS.due("refused", x.count(4), 3);
    CHECKS.due("missed", x.count(2), 2);
    x.gate(0, false);
    x.run(0);
    CHECKS.dueTrace("without gate 0", x, "");
    CHECKS.due("missed without gate 0", x.count(2), 2 + 4);
  }

  private static void promise12Tries() {
    ClearingGates x = after(2, "(0(1p017[p015p109x]p011))", 0, "10 11 101 101 110 54 101 21 20");
    CHECKS.due("undone within the try alone", x.of(0, 0), 92);
    CHECKS.due("caught", x.count(5), 1);
    after(2, "[p011]", 0, "52");
    after(2, "(0(1[p01999]))", 0, "10 11 51 21 20");
    after(2, "[(1(0n0))n0]n1", 0, "11 21 53 41");
    after(2, "[[x]x]x", UNDONE, "54 54");
    after(2, "[]", 0, "");
    after(2, "[(0(1n1x))]", 0, "10 11 31 21 20 54");
    ClearingGates counts = after(2, "[(0n0(0)(5)x)]", 0, "10 30 10 20 20 54");
    CHECKS.due("bells are not undone", counts.count(3), 1);
    CHECKS.due("missed is not undone", counts.count(2), 1);
    CHECKS.due("entries are not undone", counts.told(0, 3), 2);
    ClearingGates nested = after(2, "(0(1[p011[p012x]p014]p018[p0116x]))", 0, "10 11 101 101 54 101 101 101 54 21 20");
    CHECKS.due("nested tries", nested.of(0, 0), 100 - 1 - 4 - 8);
    ClearingGates outer = after(2, "(0(1[p011[p012]x]))", 0, "10 11 101 101 54 21 20");
    CHECKS.due("an outer try undoes an inner one's", outer.of(0, 0), 100);
    ClearingGates fees = new ClearingGates();
    fees.account(1, 100);
    fees.account(1, 100);
    Checks.program(fees, "(0(1p011[p011x]))");
    CHECKS.due("fees within a try", fees.run(0), 0);
    CHECKS.due("fees are undone, too", fees.sum(0), 1);
    CHECKS.due("all money stays", fees.sum(1), 200);
  }

  private static void promise12NarrowTries() {
    after(2, "<p011>", 0, "52");
    after(2, "(0(1<p01999>))", 0, "10 11 51 21 20");
    after(2, "<x>", UNDONE, "");
    after(2, "<(1(0))>", WRONG, "11 21");
    after(2, "[<x>n0]", 0, "54");
    ClearingGates x = after(2, "(0(1p011[p012<p014x>]))", 0, "10 11 101 101 101 54 21 20");
    CHECKS.due("the outer try undoes", x.of(0, 0), 99);
    CHECKS.due("caught once", x.count(5), 1);
  }

  private static void promise12Loops() {
    after(1, "{3n0}", 0, "40 40 40");
    after(1, "{9}", 0, "");
    after(1, "{3n0bn0}n0", 0, "40 40");
    after(1, "{3n0c(0)}(0)", 0, "40 40 40 10 20");
    after(1, "{2{2n0b}(0)}", 0, "40 10 20 40 10 20");
    after(1, "{2{2n0c(0)}}", 0, "40 40 40 40");
    after(1, "{2(0[<b>])n0}", 0, "10 20");
    after(1, "{2(0[<c>])n0}", 0, "10 20 10 20");
    after(1, "{2n0x}", UNDONE, "40");
    after(1, "[{2n0x}]n0", 0, "40 54 40");
    ClearingGates x = after(2, "(0(1{3[p011b]p012}))", 0, "10 11 101 21 20");
    CHECKS.due("balances stay by b", x.of(0, 0), 99);
    CHECKS.due("nothing is caught by b", x.count(5), 0);
    ClearingGates y = after(2, "(0(1{3[p011c]p012}))", 0, "10 11 101 101 101 21 20");
    CHECKS.due("balances stay by c", y.of(0, 0), 97);
    after(2, "(0{2(1b)}(1))", 0, "10 11 21 11 21 20");
  }

  private static void promise12Long() {
    ClearingGates x = Checks.bank(1, "{8{9{6n0}}}");
    CHECKS.due("1 + 8 + 72 + 432 items", x.run(0), LONG);
    // 1, then 7 times 1 + 9 * 7, then 1, then 7 times 7, then the loop that is the 500th.
    CHECKS.due("bells among the first 500", x.count(4), 7 * 54 + 7 * 6);
    after(1, "{9{9{9{9{9{9{9{9}}}}}}}}", LONG, "");
    ClearingGates just = Checks.bank(1, "{7{7{9n0}}}n0n0");
    CHECKS.due("1 + 7 + 49 + 441 + 2 items", just.run(0), 0);
    CHECKS.due("all were refused bells", just.count(4), 443);
    CHECKS.due("items are counted anew by each run", just.run(0), 0);
    ClearingGates over = Checks.bank(1, "{7{7{9n0}}}n0n0n0");
    CHECKS.due("one more", over.run(0), LONG);
    CHECKS.due("it isn't begun", over.count(4), 443);
    ClearingGates empty = Checks.bank(1, "{7{7{9n0}}}n0n0[]");
    CHECKS.due("brackets count", empty.run(0), LONG);
    ClearingGates kept = Checks.bank(1, "(0[<{9{9{9n0}}}>])");
    CHECKS.due("no try ends it", kept.run(0), LONG);
    CHECKS.due("nothing is caught", kept.count(5), 0);
    CHECKS.due("gates are left", kept.told(0, 4), 1);
    CHECKS.due("once more as if nothing had been", kept.run(0), LONG);
    CHECKS.due("not again", kept.told(0, 5), 0);
    ClearingGates first = Checks.bank(1, "{7{7{9n0}}}n0n0x");
    CHECKS.due("LONG is ahead of what the item throws", first.run(0), LONG);
    ClearingGates skipped = Checks.bank(1, "{9{9{6(7xxxx)}}}");
    CHECKS.due("items of a missed block don't count", skipped.would(0, 0), LONG);
    ClearingGates fewer = Checks.bank(1, "{8{9{5(7xxxx)}}}");
    CHECKS.due("1 + 8 + 72 + 360 items", fewer.run(0), 0);
    CHECKS.due("missed", fewer.count(2), 360);
  }

  private static void promise12Depth() {
    after(8, "(0(1(2(3(4(5(6(7p077)))))))p011)", UNGUARDED, "10 11 12 13 14 15 16 17 107 27 26 25 24 23 22 21 20");
    after(1, "[[[[[[[[x]]]]]]]]n0", 0, "54 40");
    after(1, "<<<<<<<<p011>>>>>>>>n0", 0, "52 40");
    after(1, "{1{1{1{1{1{1{1{2n0}}}}}}}}", 0, "40 40");
    ClearingGates x = after(2, "(0(1p011[[[[[p012[p014x]]x]]]]))", 0, "10 11 101 101 101 54 54 21 20");
    CHECKS.due("undone at each depth", x.of(0, 0), 99);
    ClearingGates y = after(2, "(0(1[[[[[p012[p014x]]]]]]))", 0, "10 11 101 101 54 21 20");
    CHECKS.due("undone by the innermost try alone", y.of(0, 0), 98);
  }

  private static void promise12Undo() {
    ClearingGates x = new ClearingGates();
    x.account(4, 1000);
    x.account(0, 0);
    Checks.program(x, "(0(1p01100n0[p01100]x))");
    CHECKS.due("thrown out", x.run(0), UNDONE);
    CHECKS.due("balance of 0", x.of(0, 0), 1000);
    CHECKS.due("balance of 1", x.of(1, 0), 0);
    CHECKS.due("fees", x.sum(0), 0);
    CHECKS.due("bells stay", x.count(3), 1);
    CHECKS.due("entries stay", x.told(0, 3), 1);
    CHECKS.due("leavings, too", x.told(0, 4), 1);
    CHECKS.dueTrace("thrown out", x, "10 11 101 30 101 21 20");
    CHECKS.due("gates are free again", x.run(0), UNDONE);
    CHECKS.due("no agains", x.told(0, 5), 0);
  }

  private static void promise12Bad() {
    ClearingGates x = Checks.bank(1, "n0");
    x.run(0);
    CHECKS.due("program -1", x.run(-1), ClearingGates.BAD);
    CHECKS.due("program 1", x.run(1), ClearingGates.BAD);
    CHECKS.due("the trace stays", x.trace(0), 40);
    CHECKS.due("refused stays", x.count(4), 1);
  }

  private static void promise13Trace() {
    ClearingGates x = Checks.bank(2, "(0(1p011))");
    Checks.program(x, "(1)");
    x.run(0);
    CHECKS.due("-1", x.trace(-1), -12);
    CHECKS.due("0", x.trace(0), 10);
    CHECKS.due("4", x.trace(4), 20);
    CHECKS.due("5", x.trace(5), -12);
    x.would(1, 0);
    x.needed(1, 0);
    x.hinges(1);
    x.film(0, 1);
    x.tells(0, 1, 0, 1);
    CHECKS.dueTrace("runs in thought leave no trace", x, "10 11 101 21 20");
    x.run(1);
    CHECKS.dueTrace("the latest run", x, "11 21");
    ClearingGates many = Checks.bank(1, "n0{9{9(0)}}");
    many.run(0);
    CHECKS.due("first of many", many.trace(0), 40);
    CHECKS.due("60th", many.trace(59), 10);
    CHECKS.due("61st is not kept", many.trace(60), -12);
    CHECKS.due("but counted", many.would(0, 2), 163);
  }
}
