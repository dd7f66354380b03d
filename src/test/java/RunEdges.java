/** Edges of RUNS, and of promises 12 and 13. */
final class RunEdges {
  private static final int SHORT = 1, UNGUARDED = 2, WRONG = 3, UNDONE = 4, LONG = 5;
  private static final int BELLS = 3, REFUSED = 4, CAUGHT = 5, MISSED = 2;
  /** 498 ITEMS, 441 of which are n0. */
  private static final String LOOPS = "{7{7{9n0}}}";

  private final Edges e;

  RunEdges(Edges e) {
    this.e = e;
  }

  void all() {
    oneBehindTheOther();
    failures();
    missed();
    wrong();
    entered();
    left();
    heldAsOften();
    unguarded();
    tooShort();
    paid();
    undoneAndLoops();
    leftByLoops();
    bells();
    tries();
    triesUndo();
    narrowTries();
    tooLong();
    longIsFirst();
    thrownOut();
    firstSixty();
    run();
    trace();
  }

  private ClearingGates after(int accounts, String text, int outcome) {
    return after(Checks.bank(accounts, text), text, outcome);
  }

  private ClearingGates after(ClearingGates x, String text, int outcome) {
    e.due("outcome of " + text, x.run(0), outcome);
    return x;
  }

  private void dueTrace(int accounts, String text, int outcome, String trace) {
    e.dueTrace(text, after(accounts, text, outcome), trace);
  }

  /** A bank of two of a KIND with that BALANCE each, and one PROGRAM. */
  private static ClearingGates two(int kind, int balance, String text) {
    ClearingGates x = new ClearingGates();
    x.account(kind, balance);
    x.account(kind, balance);
    Checks.program(x, text);
    return x;
  }

  private void oneBehindTheOther() {
    e.terms("A PROGRAM is RUN: its ITEMS one behind the other.");
    dueTrace(2, "n0(0n0)n1", 0, "40 10 30 20 41");
    dueTrace(2, "(0n1n0n1)", 0, "10 41 30 41 20");
    e.terms("HELD are GATES whose BLOCKS are entered and not left.");
    dueTrace(2, "n0(0n0n1)n0", 0, "40 10 30 41 20 40");
    dueTrace(8, "(0(7n0n7)n7)n0", 0, "10 17 30 37 27 47 20 40");
    ClearingGates x = Checks.bank(2, "(0x)");
    Checks.program(x, "n0");
    x.run(0);
    x.run(1);
    e.dueTrace("not HELD any more behind a throw", x, "40");
  }

  private void failures() {
    e.terms("FAILURES are thrown: 1 SHORT, 2 UNGUARDED, 3 WRONG, 4 UNDONE, 5 LONG;");
    after(2, "(0(1p01101))", 1);
    after(2, "p011", 2);
    after(2, "(1(0))", 3);
    after(2, "x", 4);
    after(2, "{9{9{9n0}}}", 5);
    after(2, "(0(1p01100))", 0);
    e.terms("what is thrown leaves all BLOCKS, LOOPS on its way.");
    dueTrace(2, "[(0{9(1{9xn1}n1)n0}n0)]n1", 0, "10 11 21 20 54 41");
    dueTrace(8, "(0(1(2(3(4(5(6(7xn7)n6)n5)n4)n3)n2)n1)n0)n0", UNDONE,
        "10 11 12 13 14 15 16 17 27 26 25 24 23 22 21 20");
    dueTrace(1, "{9{9{9{9{9{9{9{9xn0}n0}n0}n0}n0}n0}n0}n0}n0", UNDONE, "");
  }

  private void missed() {
    e.terms("BLOCK of D: if there is no ACCOUNT D, or its GATE is MISSING: MISSED is 1 more, its ITEMS aren't done.");
    for (int d = 2; d < 8; d++) {
      ClearingGates x = after(2, "(" + d + "xn0)n0", 0);
      e.dueTrace("no account " + d, x, "40");
      e.due("missed", x.count(MISSED), 1);
      ClearingGates there = after(d + 1, "(" + d + "x)", UNDONE);
      e.due("account " + d + " is there", there.count(MISSED), 0);
    }
    for (int d = 0; d < 8; d++) {
      ClearingGates x = Checks.bank(8, "(" + d + "xn0)");
      x.gate(d, false);
      after(x, "with gate " + d + " missing", 0);
      e.due("missed", x.count(MISSED), 1);
      e.due("not entered", x.told(d, 3), 0);
      e.due("not left", x.told(d, 4), 0);
      e.due("no marks", x.count(6), 0);
    }
    ClearingGates none = Checks.bank(0, "(0x)(7x)");
    after(none, "(0x)(7x) without accounts", 0);
    e.due("missed without accounts", none.count(MISSED), 2);
  }

  private void wrong() {
    e.terms("If D isn't HELD, but one greater is: WRONG (it isn't entered).");
    dueTrace(8, "(1(0n0)n1)", WRONG, "11 21");
    dueTrace(8, "(7(0))", WRONG, "17 27");
    dueTrace(8, "(7(6))", WRONG, "17 27");
    dueTrace(8, "(0(2(1)))", WRONG, "10 12 22 20");
    dueTrace(8, "(0(1))", 0, "10 11 21 20");
    dueTrace(8, "(1(1))", 0, "11 11 21 21");
    dueTrace(8, "(0(7(0)))", 0, "10 17 10 20 27 20");
    dueTrace(8, "(1)(0)", 0, "11 21 10 20");
    dueTrace(8, "(0(2)(1))", 0, "10 12 22 11 21 20");
    ClearingGates x = after(2, "(1(0))", WRONG);
    for (int what = 3; what <= 5; what++) {
      e.due("not entered, told 0 " + what, x.told(0, what), 0);
    }
    e.due("nor missed", x.count(MISSED), 0);
    ClearingGates missing = Checks.bank(2, "(1(0))n1");
    missing.gate(0, false);
    after(missing, "a gate that is missing is missed, not wrong", 0);
    e.due("missed", missing.count(MISSED), 1);
  }

  private void entered() {
    e.terms("Else it is entered: ENTRIES of D 1 more, AGAINS, too, if it was HELD already, mark 10 and D; its ITEMS;");
    ClearingGates x = after(8, "(0(7(0(7(7)))))(7)", 0);
    e.dueTrace("marks", x, "10 17 10 17 17 27 27 20 27 20 17 27");
    int[] due = {2, 1, 4, 2};
    int[] got = {x.told(0, 3), x.told(0, 5), x.told(7, 3), x.told(7, 5)};
    for (int i = 0; i < 4; i++) {
      e.due("entries and agains of 0 and 7, " + i, got[i], due[i]);
    }
    for (int d = 1; d < 7; d++) {
      e.due("entries of another", x.told(d, 3), 0);
      e.due("agains of another", x.told(d, 5), 0);
    }
    ClearingGates twice = after(1, "(0)(0)", 0);
    e.due("entered twice", twice.told(0, 3), 2);
    e.due("not again, for it was left", twice.told(0, 5), 0);
    ClearingGates deep = after(1, "(0(0(0(0(0(0(0(0))))))))", 0);
    e.due("eight deep", deep.told(0, 3), 8);
    e.due("seven of them again", deep.told(0, 5), 7);
  }

  private void left() {
    e.terms("it is left, however these end: LEAVINGS 1 more, mark 20 and D.");
    String[] ends = {"", "x", "p001", "(0)", "(0)x", "b", "c", "{9{9{9}}}", "{9{9{9[]}}}", "[x]", "<p001>", "(7)"};
    for (String end : ends) {
      ClearingGates x = Checks.bank(2, "[{1(1" + end + ")}]");
      x.run(0);
      e.due("entered by " + end, x.told(1, 3), 1);
      e.due("left by " + end, x.told(1, 4), 1);
      e.due("the mark by " + end, Checks.trace(x).contains("21"));
    }
    ClearingGates tooMuch = after(2, "(0(1p01101))", SHORT);
    e.dueTrace("SHORT", tooMuch, "10 11 21 20");
    e.due("left by SHORT", tooMuch.told(0, 4), 1);
    ClearingGates eighth = after(8, "(7(7))", 0);
    e.due("left twice", eighth.told(7, 4), 2);
    e.dueTrace("20 and 7", eighth, "17 17 27 27");
  }

  private void heldAsOften() {
    e.terms("(HELD as often as entered and not left.)");
    dueTrace(1, "(0(0)n0)n0", 0, "10 10 20 30 20 40");
    dueTrace(1, "(0(0(0)n0)n0)n0", 0, "10 10 10 20 30 20 30 20 40");
    dueTrace(1, "(0[(0x)]n0)n0", 0, "10 10 20 54 30 20 40");
    after(2, "(0(1(0)(1)p011))", 0);
    after(2, "(0(0(1)))p011", UNGUARDED);
    after(2, "(1(1)(0))", WRONG);
    after(2, "(1(1))(0)", 0);
  }

  private void unguarded() {
    e.terms("Payment from F to T of V: UNGUARDED, if there is no such ACCOUNT, they are the same, "
        + "or one of both GATES isn't HELD.");
    for (int d = 2; d < 8; d++) {
      after(2, "(0(1p0" + d + "1))", UNGUARDED);
      after(2, "(0(1p" + d + "01))", UNGUARDED);
    }
    String[] texts = {"(0(1p001))", "(0(1p111))", "(0p000)", "p010", "(0p010)", "(1p010)", "(0p100)", "(1p100)",
        "(0(1)p010)", "(0p019999)", "(0p779999)", "(0(1(2)p020))"};
    for (String text : texts) {
      after(3, text, UNGUARDED);
    }
    ClearingGates missing = Checks.bank(2, "(0(1)p010)");
    missing.gate(1, false);
    after(missing, "(0(1)p010) with gate 1 missing", UNGUARDED);
    after(Checks.bank(0, "p010"), "p010 without accounts", UNGUARDED);
    ClearingGates x = after(3, "(0(1p001))", UNGUARDED);
    e.due("nothing is paid", x.of(0, 0), 100);
    e.due("no mark", x.count(6), 4);
    after(3, "(0(1p010))", 0);
  }

  private void tooShort() {
    e.terms("SHORT, if BALANCE of F less V and FEE is below FLOOR,");
    after(2, "(0(1p01100))", 0);
    after(2, "(0(1p01101))", SHORT);
    after(2, "(0(1p0199p011))", 0);
    after(2, "(0(1p0199p012))", SHORT);
    after(two(1, 100, "(0(1p0189))"), "89 and 1 of 100, by a SAVER", 0);
    after(two(1, 100, "(0(1p0190))"), "90 and 1 of 100, by a SAVER", SHORT);
    after(two(4, 100, "(0(1p0190))"), "90 and 10 of 100, by a TITHE", 0);
    after(two(4, 100, "(0(1p0191))"), "91 and 10 of 100, by a TITHE", SHORT);
    after(two(0, 0, "(0(1p010))"), "0 of 0", 0);
    after(two(0, 0, "(0(1p011))"), "1 of 0", SHORT);
    e.terms("or BALANCE of T and V above 1000000000.");
    int[] balances = {999990001, 999990002, 1000000000, 1000000000, 999999999, 999999999};
    String[] texts = {"(0(1p019999))", "(0(1p019999))", "(0(1p011))", "(0(1p010))", "(0(1p011))", "(0(1p012))"};
    int[] outcomes = {0, SHORT, SHORT, 0, 0, SHORT};
    for (int i = 0; i < texts.length; i++) {
      ClearingGates x = two(0, 9999, texts[i]);
      x.set(1, 0, balances[i]);
      after(x, texts[i] + " to one with " + balances[i], outcomes[i]);
      e.due("what it has", x.of(1, 0), outcomes[i] == 0 && balances[i] < 1000000000 ? 1000000000 : balances[i]);
      e.due("who pays keeps it, if SHORT", x.of(0, 0) == 9999 || outcomes[i] == 0);
    }
    ClearingGates fee = two(4, 9999, "(0(1p011000))");
    fee.set(1, 0, 999999000);
    after(fee, "the fee doesn't come to who is paid", 0);
    e.due("just so much", fee.of(1, 0), 1000000000);
  }

  private void paid() {
    e.terms("Else BALANCE of F is V and FEE less, of T V more, FEES FEE more; mark 100 and 10 F and T.");
    ClearingGates x = two(4, 100, "(0(1p0119p1019))");
    after(x, "19 to and fro, by TITHES", 0);
    e.due("balance of 0", x.of(0, 0), 98);
    e.due("balance of 1", x.of(1, 0), 98);
    e.due("fees", x.sum(0), 4);
    e.dueTrace("marks", x, "10 11 101 110 21 20");
    dueTrace(8, "(0(7p071p701))", 0, "10 17 107 170 27 20");
    dueTrace(8, "(6(7p671p761))", 0, "16 17 167 176 27 26");
    ClearingGates none = after(2, "(0(1p010))", 0);
    e.dueTrace("of 0, too", none, "10 11 101 21 20");
    e.due("balance of 0", none.of(0, 0), 100);
  }

  private void undoneAndLoops() {
    e.terms("x: UNDONE.");
    dueTrace(1, "xn0", UNDONE, "");
    dueTrace(1, "n0x", UNDONE, "40");
    e.terms("b ends the innermost LOOP,");
    dueTrace(1, "{9bn0}n0", 0, "40");
    dueTrace(1, "{9n0b}", 0, "40");
    dueTrace(2, "{2{3n0bn0}n1}", 0, "40 41 40 41");
    dueTrace(2, "{2n1{3n0}b}n1", 0, "41 40 40 40 41");
    dueTrace(1, "{1b}n0", 0, "40");
    e.terms("c its time (it goes on with the next one, if there is one);");
    dueTrace(2, "{3n0cn0}n1", 0, "40 40 40 41");
    dueTrace(2, "{1n0cn0}n1", 0, "40 41");
    dueTrace(2, "{9c}n1", 0, "41");
    dueTrace(2, "{2{2n0cn0}n1}", 0, "40 40 41 40 40 41");
  }

  private void leftByLoops() {
    e.terms("BLOCKS, TRIES on the way are left (BALANCES stay as they are).");
    dueTrace(2, "{1(0[<(1bn1)n1>n1]n1)n1}n0n1", 0, "10 11 21 20 40 41");
    dueTrace(2, "{2(0[<(1cn1)n1>n1]n1)n1}n0", 0, "10 11 21 20 10 11 21 20 40");
    String[] ends = {"b", "c"};
    for (String end : ends) {
      ClearingGates x = two(1, 100, "(0(1{1[p011<p012" + end + ">]}))");
      after(x, "payments, then " + end, 0);
      e.due("balances stay", x.of(0, 0), 95);
      e.due("fees stay", x.sum(0), 2);
      e.due("nothing is caught", x.count(CAUGHT), 0);
      ClearingGates y = two(1, 100, "(0(1[{1[p011" + end + "]}p012x]p014))");
      after(y, "an outer TRY still undoes what stayed", 0);
      e.due("balance", y.of(0, 0), 95);
      ClearingGates z = two(1, 100, "(0(1[{1[p011" + end + "]}]x))");
      after(z, "the RUN still undoes what stayed", UNDONE);
      e.due("balance behind the run", z.of(0, 0), 100);
    }
    after(2, "{1(0(1b))}p011", UNGUARDED);
    after(2, "{1(1c)}(0)", 0);
  }

  private void dueBells(ClearingGates x, int missed, int bells, int refused) {
    e.due("missed", x.count(MISSED), missed);
    e.due("bells", x.count(BELLS), bells);
    e.due("refused", x.count(REFUSED), refused);
  }

  private void bells() {
    e.terms("n D: if there is no ACCOUNT D or its GATE is MISSING: MISSED 1 more;");
    for (int d = 1; d < 8; d++) {
      ClearingGates x = after(1, "n" + d, 0);
      dueBells(x, 1, 0, 0);
      e.due("no mark", x.count(6), 0);
    }
    ClearingGates missing = Checks.bank(8, "(0n7)");
    missing.gate(7, false);
    after(missing, "gate 7 is missing", 0);
    dueBells(missing, 1, 0, 0);
    e.dueTrace("no mark of it", missing, "10 20");
    e.terms("else if D is HELD: BELLS 1 more, mark 30 and D;");
    ClearingGates held = after(8, "(0(7n0n7n0))", 0);
    dueBells(held, 0, 3, 0);
    e.dueTrace("(0(7n0n7n0))", held, "10 17 30 37 30 27 20");
    e.terms("else REFUSED 1 more, mark 40 and D.");
    ClearingGates refused = after(8, "n0(0n7)n0", 0);
    dueBells(refused, 0, 0, 3);
    e.dueTrace("n0(0n7)n0", refused, "40 10 47 20 40");
    e.terms("a D: as n D, but BELLS 2 more.");
    ClearingGates all = after(7, "a7(0a0a0a6)a0", 0);
    dueBells(all, 1, 4, 2);
    e.dueTrace("a7(0a0a0a6)a0", all, "10 30 30 46 20 40");
    ClearingGates gone = Checks.bank(1, "(0)a0");
    gone.gate(0, false);
    after(gone, "gate 0 is missing", 0);
    dueBells(gone, 2, 0, 0);
  }

  private void tries() {
    e.terms("TRY: what its ITEMS throw (but LONG) ends there:");
    dueTrace(2, "(0(1[p01101n0]n1))", 0, "10 11 51 31 21 20");
    dueTrace(2, "[p011n0]n1", 0, "52 41");
    dueTrace(2, "[(1(0))n0]n1", 0, "11 21 53 41");
    dueTrace(2, "[xn0]n1", 0, "54 41");
    ClearingGates tooLong = after(2, "[{9{9{9n0}}}]n1", LONG);
    e.due("nothing is caught", tooLong.count(CAUGHT), 0);
    ClearingGates none = after(2, "[]n0[n1]", 0);
    e.due("nothing is thrown", none.count(CAUGHT), 0);
    dueTrace(2, "[[x]n0]n1", 0, "54 40 41");
    e.terms("CAUGHT is 1 more, mark 50 and the FAILURE; it goes on behind.");
    ClearingGates x = after(2, "{3[x]}[p011][[x]x]n1", 0);
    e.due("caught", x.count(CAUGHT), 6);
    e.dueTrace("marks", x, "54 54 54 52 54 54 41");
    dueTrace(2, "(0(1[p01101]))[(1(0))]", 0, "10 11 51 21 20 11 21 53");
  }

  private void triesUndo() {
    e.terms("BALANCES, FEES are as the TRY began,");
    ClearingGates x = two(1, 100, "(0(1p011[p012p104x]p018))");
    after(x, "two payments within a TRY", 0);
    e.due("balance of 0", x.of(0, 0), 89);
    e.due("balance of 1", x.of(1, 0), 109);
    e.due("fees", x.sum(0), 2);
    ClearingGates inner = two(1, 100, "(0(1[p011[p012x]p014]))");
    after(inner, "an inner TRY undoes its own alone", 0);
    e.due("balance", inner.of(0, 0), 93);
    e.due("fees", inner.sum(0), 2);
    ClearingGates outer = two(1, 100, "(0(1[p011[p012]x]))");
    after(outer, "an outer TRY undoes an inner one's, too", 0);
    e.due("balance", outer.of(0, 0), 100);
    e.due("fees", outer.sum(0), 0);
    ClearingGates again = two(1, 100, "(0(1{3p011[p012x]}))");
    after(again, "a TRY begins each time anew", 0);
    e.due("balance", again.of(0, 0), 94);
    ClearingGates deep = two(0, 100, "(0(1[p011[p011[p011[p011[p011[p011x]]]]]]))");
    after(deep, "eight brackets", 0);
    e.due("balance", deep.of(0, 0), 95);
    ClearingGates counts = after(2, "[(0(0n0)n1(7)x)]", 0);
    dueBells(counts, 1, 1, 1);
    e.due("entries stay", counts.told(0, 3), 2);
    e.due("agains stay", counts.told(0, 5), 1);
  }

  private void narrowTries() {
    e.terms("NARROW TRY: SHORT, UNGUARDED alone so; others go on out.");
    dueTrace(2, "(0(1<p01101n0>n1))", 0, "10 11 51 31 21 20");
    dueTrace(2, "<p011n0>n1", 0, "52 41");
    dueTrace(2, "<(1(0))>n1", WRONG, "11 21");
    dueTrace(2, "<x>n1", UNDONE, "");
    after(2, "<{9{9{9n0}}}>n1", LONG);
    dueTrace(2, "[<(1(0))>n1]", 0, "11 21 53");
    dueTrace(2, "[<x>n1]", 0, "54");
    dueTrace(2, "<[x]p011>", 0, "54 52");
    ClearingGates x = two(1, 100, "(0(1p011<p012p01999>p014))");
    after(x, "undone by a NARROW TRY", 0);
    e.due("balance", x.of(0, 0), 93);
    e.due("fees", x.sum(0), 2);
    e.due("caught", x.count(CAUGHT), 1);
    ClearingGates out = two(1, 100, "(0(1[p011<p012x>]))");
    after(out, "undone by the TRY outside", 0);
    e.due("balance", out.of(0, 0), 100);
    e.due("caught once", out.count(CAUGHT), 1);
  }

  private void tooLong() {
    e.terms("LONG: the 501st ITEM of the RUN (each time one is begun counts, brackets, too) would begin.");
    String[] just = {"n0n0", "n0[]", "n0<>", "[n0]", "<n0>", "(0n0)", "{1n0}", "n0{9}", "[(0)]", "{9bn0}", "(7xxx)n0",
        "{1c}"};
    for (String text : just) {
      after(1, LOOPS + text, 0);
      after(1, LOOPS + text + "n0", LONG);
    }
    String[] over = {"n0n0n0", "[n0n0]", "{2n0}n0", "{3n0}", "[<{1}>]", "n0(0n0)", "(0[n0])"};
    for (String text : over) {
      ClearingGates x = after(1, LOOPS + text, LONG);
      e.due("nothing is caught", x.count(CAUGHT), 0);
    }
    ClearingGates x = Checks.bank(1, LOOPS + "n0n0");
    after(x, "500 items", 0);
    e.due("all were begun", x.count(REFUSED), 443);
    after(x, "each RUN counts anew", 0);
    ClearingGates y = after(1, LOOPS + "n0n0n0", LONG);
    e.due("the 501st wasn't begun", y.count(REFUSED), 443);
    ClearingGates z = after(1, "(0" + LOOPS + "n0n0)", LONG);
    e.due("the 500th was", z.count(BELLS), 442);
    e.due("the gate is left", z.told(0, 4), 1);
    e.due("in thought, too", Checks.bank(1, LOOPS + "n0n0").would(0, 0), 0);
    e.due("in thought, too", Checks.bank(1, LOOPS + "n0n0n0").would(0, 0), LONG);
    after(1, "{9{9{9{9{9{9{9{9}}}}}}}}", LONG);
  }

  /** What the 501st ITEM would do is not done, whatever it is. */
  private void longIsFirst() {
    String[] last = {"x", "p011", "(7)", "n7", "[x]", "<p011>", "{1b}"};
    for (String text : last) {
      ClearingGates x = after(2, LOOPS + "n0n0" + text, LONG);
      e.due("nothing is missed", x.count(MISSED), 0);
      e.due("nothing is caught", x.count(CAUGHT), 0);
    }
    after(2, LOOPS + "n0x", UNDONE);
    after(2, LOOPS + "n0p011", UNGUARDED);
    after(2, LOOPS + "(1(0))", WRONG);
    after(2, "(1" + LOOPS + "n0(0))", LONG);
  }

  private void thrownOut() {
    e.terms("What is thrown out of the PROGRAM ends it: BALANCES, FEES are as the RUN began; "
        + "its OUTCOME: the FAILURE; else 0.");
    String[] ends = {"p01999", "p001", "(0(1))x", "x", "{9{9{9n0}}}"};
    int[] outcomes = {SHORT, UNGUARDED, UNDONE, UNDONE, LONG};
    for (int i = 0; i < ends.length; i++) {
      ClearingGates x = two(1, 100, "(0(1p011[p012]p104" + ends[i] + "))n0");
      Checks.program(x, "(0(1p0116))");
      x.run(1);
      after(x, "payments, then " + ends[i], outcomes[i]);
      e.due("balance of 0, as the run began", x.of(0, 0), 83);
      e.due("balance of 1, as the run began", x.of(1, 0), 116);
      e.due("fees, as the run began", x.sum(0), 1);
      e.due("it ended", x.count(REFUSED), 0);
    }
    ClearingGates wrong = two(1, 100, "(0(1p011))(1(0))");
    after(wrong, "WRONG behind a payment", WRONG);
    e.due("balance", wrong.of(0, 0), 100);
    e.due("fees", wrong.sum(0), 0);
    String[] tries = {"[]", "[x]", "<>", "<p001>", "{1}", "[[<>]]"};
    for (String text : tries) {
      ClearingGates x = two(1, 100, "(0(1p011))" + text + "x");
      after(x, "a payment, " + text + ", a throw", UNDONE);
      e.due("balance, as the run began", x.of(0, 0), 100);
      e.due("fees, as the run began", x.sum(0), 0);
    }
    ClearingGates fine = two(1, 100, "(0(1p011))[x]");
    after(fine, "caught", 0);
    e.due("balance stays paid", fine.of(0, 0), 98);
  }

  private void firstSixty() {
    e.terms("THE TRACE: marks of the latest RUN that was truly, the first 60.");
    String sixty = "40 ".repeat(59) + "41";
    ClearingGates just = after(2, "{9{6n0}}{5n0}n1", 0);
    e.dueTrace("60 marks", just, sixty);
    ClearingGates more = after(2, "{9{6n0}}{5n0}n1n0", 0);
    e.dueTrace("61 marks", more, sixty);
    e.due("a 61st", more.trace(60), -12);
    Checks.program(more, "n0");
    Checks.program(more, "x");
    more.would(1, 0);
    more.needed(1, 0);
    more.hinges(1);
    more.film(0, 1);
    more.tells(0, 1, 0, 0);
    more.tells(0, 1, 0, 1);
    e.dueTrace("runs in thought are none", more, sixty);
    more.run(9);
    e.dueTrace("a refused run is none", more, sixty);
    more.run(1);
    e.dueTrace("the latest, a shorter one", more, "40");
    more.net();
    e.dueTrace("no marks by netting", more, "40");
    more.run(2);
    e.dueTrace("the latest, without marks", more, "");
  }

  private void run() {
    e.promise(12, "A PROGRAM is RUN, truly: OUTCOME.");
    ClearingGates x = Checks.bank(2, "(0(1p0130))");
    for (int i = 1; i <= 3; i++) {
      e.due("run " + i, x.run(0), 0);
      e.due("balance", x.of(0, 0), 100 - 30 * i);
      e.due("entries", x.told(0, 3), i);
    }
    e.due("the fourth", x.run(0), SHORT);
    e.due("balance stays", x.of(0, 0), 10);
    e.due("entries stay counted", x.told(0, 3), 4);
    e.promise(12, "BAD.");
    int[] programs = {Edges.LEAST, -1, 1, 4, Edges.GREATEST};
    for (int p : programs) {
      e.due("program " + p, x.run(p), Edges.BAD);
    }
    e.due("no entries", x.told(0, 3), 4);
    e.due("none at all", new ClearingGates().run(0), Edges.BAD);
  }

  private void trace() {
    e.promise(13, "The i-th mark of THE TRACE.");
    ClearingGates x = after(8, "(0(7p070n0))n1", 0);
    int[] marks = {10, 17, 107, 30, 27, 20, 41};
    for (int i = 0; i < marks.length; i++) {
      e.due("mark " + i, x.trace(i), marks[i]);
    }
    ClearingGates many = after(1, "{9{9n0}}", 0);
    e.due("the first", many.trace(0), 40);
    e.due("the last", many.trace(59), 40);
    e.promise(13, "-12.");
    int[] outside = {Edges.LEAST, -1, 7, 60, Edges.GREATEST};
    for (int i : outside) {
      e.due("mark " + i, x.trace(i), -12);
    }
    e.due("mark 60 of more", many.trace(60), -12);
    e.due("no run yet", new ClearingGates().trace(0), -12);
    ClearingGates none = after(1, "[]", 0);
    e.due("no marks", none.trace(0), -12);
  }
}
