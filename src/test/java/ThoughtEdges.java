/** Edges of RUNS in thought and of what SHEETS tell of them: promises 14 to 16, 20 and 21. */
final class ThoughtEdges {
  private static final int BAD = Edges.BAD, NONE = Edges.NONE, LEAST = Edges.LEAST, GREATEST = Edges.GREATEST;
  private static final int[] NO_PROGRAM = {LEAST, -1, 1, 4, GREATEST};
  private static final int[] NO_ACCOUNT = {LEAST, -1, 2, 8, GREATEST};
  private static final int[] NO_SHEET = {LEAST, -1, 4, GREATEST};

  private final Edges e;

  ThoughtEdges(Edges e) {
    this.e = e;
  }

  void all() {
    inThought();
    steps();
    leastOfThem();
    hinges();
    told();
    toldTooFew();
    kinds();
    would();
    needed();
    hingesCall();
    tells();
    tellsRefusals();
    film();
  }

  private static void fill(ClearingGates x, int sheet, int sort, int... numbers) {
    x.sheet(sheet, sort, numbers.length);
    for (int i = 0; i < numbers.length; i++) {
      x.put(sheet, i, numbers[i]);
    }
  }

  private static void fillAlike(ClearingGates x, int sheet, int n, int v) {
    x.sheet(sheet, 1, n);
    for (int i = 0; i < n; i++) {
      x.put(sheet, i, v);
    }
  }

  private void inThought() {
    e.terms("WOULD: a RUN in thought: OUTCOME; BALANCE of an ACCOUNT; FEES; how many marks (all); "
        + "ENTRIES of all GATES more than now.");
    ClearingGates x = new ClearingGates();
    x.account(4, 100);
    x.account(0, 0);
    Checks.program(x, "(0(1(1p0119)n7n0[x]))n0");
    x.run(0);
    for (int again = 0; again < 2; again++) {
      e.due("outcome", x.would(0, 0), 0);
      e.due("balance of 0", x.would(0, 10), 58);
      e.due("balance of 1", x.would(0, 11), 38);
      e.due("fees", x.would(0, 1), 4);
      e.due("marks", x.would(0, 2), 10);
      e.due("entries more than now", x.would(0, 3), 3);
    }
    e.due("truly the balance is as before", x.of(0, 0), 79);
    e.due("truly the entries are", x.told(1, 3), 2);
    e.due("all marks, though 60 are kept", Checks.bank(1, "{9{9{5n0}}}").would(0, 2), 405);
    e.due("61 marks", Checks.bank(1, "{9{6n0}}{7n0}").would(0, 2), 61);
    ClearingGates thrown = Checks.bank(2, "(0(1p011x))");
    e.due("thrown out", thrown.would(0, 0), 4);
    e.due("as the run would have begun", thrown.would(0, 10), 100);
    e.due("entered all the same", thrown.would(0, 3), 2);
    e.due("marked all the same", thrown.would(0, 2), 5);
    e.due("nothing", Checks.bank(1, "[]").would(0, 3), 0);
    e.due("entries of all eight", Checks.bank(8, "(0(1(2(3(4(5(6(7))))))))(7)").would(0, 3), 9);
  }

  /** A PROGRAM by which ACCOUNT 0 pays just so much to ACCOUNT 1. */
  private static String paying(int total) {
    int rounds = total / 9999;
    StringBuilder text = new StringBuilder("(0(1");
    if (rounds >= 81) {
      text.append("{9{9p019999}}");
      rounds -= 81;
    }
    if (rounds >= 9) {
      text.append('{').append(rounds / 9).append("{9p019999}}");
    }
    if (rounds % 9 > 0) {
      text.append('{').append(rounds % 9).append("p019999}");
    }
    return text.append("p01").append(total % 9999).append("))").toString();
  }

  private static int neededFor(String text) {
    return Checks.bank(2, text).needed(0, 0);
  }

  private void steps() {
    e.terms("NEEDED of an ACCOUNT: the least of BALANCES 0, 1, 2, 4, .. 1048576 of it");
    e.due("for 0", neededFor(paying(0)), 0);
    for (int step = 0; step <= 20; step++) {
      int v = 1 << step;
      e.due("for " + v, neededFor(paying(v)), v);
      e.due("for one more than " + v, neededFor(paying(v + 1)), step < 20 ? 2 * v : NONE);
    }
    ClearingGates credit = new ClearingGates();
    credit.account(2, 0);
    credit.account(0, 0);
    credit.set(0, 1, 7);
    Checks.program(credit, paying(7));
    Checks.program(credit, paying(8));
    e.due("none, down to the floor", credit.needed(0, 0), 0);
    e.due("1, down to the floor", credit.needed(1, 0), 1);
  }

  private void leastOfThem() {
    e.terms("by which OUTCOME would be 0; NONE.");
    e.due("0, though not by greater ones", neededFor("(0(1<p0150x>))"), 0);
    e.due("4, though neither by lesser nor by greater ones", neededFor("(0(1p013<p0150x>))"), 4);
    e.due("3 alone would do, which is none of them", neededFor("(0(1p013<p011x>))"), NONE);
    e.due("by none", neededFor("x"), NONE);
    e.due("by all", neededFor("[x]"), 0);
    ClearingGates x = Checks.bank(2, "(0(1p0133))");
    x.set(0, 0, 1000000000);
    e.due("what it has doesn't matter", x.needed(0, 0), 64);
    e.due("it has that still", x.of(0, 0), 1000000000);
    Checks.program(x, paying(1048576));
    Checks.program(x, paying(1048577));
    e.due("the greatest is less than it has", x.needed(1, 0), 1048576);
    e.due("what it has would do, but is none of them", x.needed(2, 0), NONE);
    x.set(0, 0, 32);
    e.due("what another one has does", x.needed(0, 1), NONE);
    x.set(0, 0, 33);
    e.due("it has just enough", x.needed(0, 1), 0);
  }

  private void hinges() {
    e.terms("HINGES: GATES (bits by ACCOUNTS) of which each, were it MISSING (alone; there, if it is MISSING), "
        + "would make OUTCOME another one.");
    for (int d = 0; d < 8; d++) {
      e.due("gate " + d, Checks.bank(8, "(" + d + "x)").hinges(0), 1 << d);
    }
    e.due("all", Checks.bank(8, "(0(1(2(3(4(5(6(7x))))))))").hinges(0), 255);
    e.due("none", Checks.bank(8, "(0(1p011))").hinges(0), 0);
    e.due("no accounts", Checks.bank(0, "(0x)").hinges(0), 0);
    e.due("the same failure all the same", Checks.bank(1, "(0x)x").hinges(0), 0);
    e.due("another failure", Checks.bank(2, "(1(0))x").hinges(0), 3);
    ClearingGates x = Checks.bank(2, "(0(1x))");
    x.gate(0, false);
    e.due("were it there", x.hinges(0), 1);
    x.gate(1, false);
    e.due("the other one stays missing", x.hinges(0), 0);
    x.gate(0, true);
    e.due("were the other one there", x.hinges(0), 2);
    e.due("truly it is missing", x.told(1, 2), 0);
    e.due("truly it is there", x.told(0, 2), 1);
  }

  private void told() {
    e.terms("TOLD: a SHEET tells marks of a RUN of a PROGRAM in thought: the first (from 0) that is otherwise, or told, "
        + "but not there (60 at most are);");
    ClearingGates x = Checks.bank(1, "(0n0)");
    for (int i = 0; i < 3; i++) {
      fill(x, 0, 1, 10, 30, 20);
      x.put(0, i, 0);
      e.due("otherwise at " + i, x.tells(0, 0, 0, 0), i);
      x.put(0, 2, 0);
      e.due("the first of two", x.tells(0, 0, 0, 0), i);
    }
    fill(x, 0, 1, 10, 30, 20, 0);
    e.due("told, but not there", x.tells(0, 0, 0, 0), 3);
    fill(x, 0, 1, 10, 30, 21, 0);
    e.due("otherwise, ahead of one not there", x.tells(0, 0, 0, 0), 2);
    Checks.program(x, "[]");
    e.due("no marks are there", x.tells(0, 1, 0, 0), 0);
    ClearingGates many = Checks.bank(1, "{9{6n0}}{7n0}");
    Checks.program(many, "{9{6n0}}{6n0}");
    Checks.program(many, "{9{6n0}}{5n0}");
    fillAlike(many, 0, 60, 40);
    e.due("60 of 61 are there", many.tells(0, 0, 0, 0), NONE);
    e.due("60 of 60", many.tells(0, 1, 0, 0), NONE);
    e.due("the 60th isn't", many.tells(0, 2, 0, 0), 59);
    many.put(0, 59, 30);
    e.due("the 60th is otherwise", many.tells(0, 0, 0, 0), 59);
  }

  private void toldTooFew() {
    e.terms("else, if it tells too few, how many it tells; NONE;");
    ClearingGates x = Checks.bank(1, "(0n0)");
    x.sheet(0, 1, 0);
    e.due("nothing is told", x.tells(0, 0, 0, 0), 0);
    fill(x, 0, 1, 10);
    e.due("one is told", x.tells(0, 0, 0, 0), 1);
    fill(x, 0, 1, 10, 30);
    e.due("two are told", x.tells(0, 0, 0, 0), 2);
    fill(x, 0, 1, 10, 31);
    e.due("otherwise, ahead of too few", x.tells(0, 0, 0, 0), 1);
    fill(x, 0, 1, 10, 30, 20);
    e.due("all are told", x.tells(0, 0, 0, 0), NONE);
    Checks.program(x, "[]");
    x.sheet(0, 1, 0);
    e.due("nothing is told of nothing", x.tells(0, 1, 0, 0), NONE);
    ClearingGates many = Checks.bank(1, "{9{9n0}}");
    fillAlike(many, 0, 59, 40);
    e.due("59 are told", many.tells(0, 0, 0, 0), 59);
  }

  private void kinds() {
    e.terms("KINDS (bits 0 .. 4) of an ACCOUNT by which all would be just so.");
    // Of 100 with LIMIT 5 a PLAIN can pay 100, a SAVER 89, a CREDIT 105, a GOLD 110, a TITHE 90.
    int[] v = {89, 90, 91, 100, 101, 105, 106, 110, 111};
    int[] paid = {31, 29, 13, 13, 12, 12, 8, 8, 0};
    for (int i = 0; i < v.length; i++) {
      ClearingGates x = Checks.bank(2, "(0(1p01" + v[i] + "))");
      x.set(0, 1, 5);
      fill(x, 0, 1, 10, 11, 101, 21, 20);
      e.due("by which " + v[i] + " is paid", x.tells(0, 0, 0, 1), paid[i]);
      fill(x, 0, 1, 10, 11, 21, 20);
      e.due("by which " + v[i] + " isn't", x.tells(0, 0, 0, 1), 31 - paid[i]);
      fill(x, 0, 1, 10, 11);
      e.due("too few are told", x.tells(0, 0, 0, 1), 0);
      e.due("truly the kind stays", x.told(0, 0), 0);
    }
    ClearingGates y = Checks.bank(8, "[]");
    y.sheet(0, 0, 0);
    e.due("all, of the eighth", y.tells(0, 0, 7, 1), 31);
    y.sheet(0, 0, 1);
    e.due("none, of the eighth", y.tells(0, 0, 7, 1), 0);
  }

  private void would() {
    e.promise(14, "WOULD: OUTCOME (what 0), FEES (1), marks (2), ENTRIES more (3), "
        + "BALANCE of ACCOUNT what less 10 (10 ..).");
    ClearingGates x = new ClearingGates();
    for (int a = 0; a < 8; a++) {
      x.account(1, 100 + a);
    }
    Checks.program(x, "(0(7p0710))x");
    Checks.program(x, "(0(7p0710))");
    e.due("outcome, a failure", x.would(0, 0), 4);
    int[] due = {0, 1, 5, 2};
    for (int what = 0; what <= 3; what++) {
      e.due("what " + what, x.would(1, what), due[what]);
    }
    for (int a = 0; a < 8; a++) {
      e.due("balance of " + a, x.would(1, 10 + a), a == 0 ? 89 : a == 7 ? 117 : 100 + a);
    }
    e.promise(14, "NO.");
    int[] whats = {LEAST, LEAST + 9, LEAST + 10, -1, 4, 9, 18, GREATEST};
    for (int what : whats) {
      e.due("what " + what, x.would(1, what), Edges.NO);
    }
    ClearingGates two = Checks.bank(2, "[]");
    e.due("the last account", two.would(0, 11), 100);
    e.due("one behind it", two.would(0, 12), Edges.NO);
    for (int p : NO_PROGRAM) {
      e.due("program " + p, two.would(p, 0), Edges.NO);
      e.due("balance by program " + p, two.would(p, 10), Edges.NO);
    }
  }

  private void needed() {
    e.promise(15, "NEEDED; NONE.");
    e.due("33 need 64", neededFor("(0(1p0133))"), 64);
    e.due("none does", neededFor("(0(1p0133))x"), NONE);
    e.due("of the eighth", Checks.bank(8, "(0(7p703))").needed(0, 7), 4);
    e.promise(15, "BAD.");
    ClearingGates x = Checks.bank(2, "x");
    for (int p : NO_PROGRAM) {
      e.due("program " + p, x.needed(p, 0), BAD);
    }
    for (int a : NO_ACCOUNT) {
      e.due("account " + a, x.needed(0, a), BAD);
    }
    e.due("an account that is", x.needed(0, 1), NONE);
  }

  private void hingesCall() {
    e.promise(16, "HINGES.");
    e.due("the eighth", Checks.bank(8, "(7x)").hinges(0), 128);
    e.due("none", Checks.bank(8, "x").hinges(0), 0);
    e.promise(16, "BAD.");
    ClearingGates x = Checks.bank(1, "(0x)");
    for (int p : NO_PROGRAM) {
      e.due("program " + p, x.hinges(p), BAD);
    }
  }

  private void tells() {
    e.promise(20, "TOLD of a PROGRAM: the first (what 0; NONE), KINDS (1) of an ACCOUNT.");
    ClearingGates x = Checks.bank(8, "(6(7p760))");
    for (int sort = 0; sort <= 1; sort++) {
      fill(x, 3, sort, 16, 17, 176, 27, 26);
      e.due("none, by sort " + sort, x.tells(3, 0, 0, 0), NONE);
      e.due("kinds, by sort " + sort, x.tells(3, 0, 7, 1), 1 | 2 | 4 | 8 | 16);
      x.put(3, 4, 25);
      e.due("the last, by sort " + sort, x.tells(3, 0, 0, 0), 4);
      e.due("no kinds, by sort " + sort, x.tells(3, 0, 7, 1), 0);
      x.put(3, 4, 26 + 256);
      e.due("lowest 8 bits, of bytes alone", x.tells(3, 0, 0, 0), sort == 0 ? NONE : 4);
    }
    for (int a : NO_ACCOUNT) {
      e.due("the account doesn't matter by 0: " + a, x.tells(3, 0, a, 0), 4);
    }
    e.due("no run was truly", x.count(6), 0);
  }

  private void tellsRefusals() {
    e.promise(20, "BAD: SHEET, PROGRAM, what, no such ACCOUNT (by 1);");
    ClearingGates x = Checks.bank(2, "[]");
    x.sheet(0, 1, 0);
    for (int s : NO_SHEET) {
      e.due("sheet " + s, x.tells(s, 0, 0, 0), BAD);
    }
    for (int p : NO_PROGRAM) {
      e.due("program " + p, x.tells(0, p, 0, 0), BAD);
      e.due("program " + p + " and a missing sheet", x.tells(1, p, 0, 0), BAD);
    }
    int[] whats = {LEAST, -1, 2, GREATEST};
    for (int what : whats) {
      e.due("what " + what, x.tells(0, 0, 0, what), BAD);
      e.due("what " + what + " and a missing sheet", x.tells(1, 0, 0, what), BAD);
    }
    for (int a : NO_ACCOUNT) {
      e.due("account " + a, x.tells(0, 0, a, 1), BAD);
      e.due("account " + a + " and a missing sheet", x.tells(1, 0, a, 1), BAD);
      e.due("account " + a + ", by 0", x.tells(0, 0, a, 0), NONE);
    }
    e.promise(20, "-11;");
    e.due("a missing sheet", x.tells(1, 0, 0, 0), -11);
    e.due("a missing sheet, by 1", x.tells(3, 0, 1, 1), -11);
    e.due("an empty one is not missing", x.tells(0, 0, 0, 0), NONE);
    x.sheet(0, -1, 0);
    e.due("missing again", x.tells(0, 0, 0, 0), -11);
    // No SHEET of more than 60 can come about: none is made so, and a film has 60 at most.
    e.promise(20, "BAD: it tells more than 60.");
    ClearingGates many = Checks.bank(1, "{9{9n0}}");
    e.due("a sheet of 61", many.sheet(0, 1, 61), BAD);
    e.due("a film", many.film(0, 0), 60);
    e.due("it tells 60", many.tells(0, 0, 0, 0), NONE);
    e.due("it tells 60, by 1", many.tells(0, 0, 0, 1), 31);
  }

  private void film() {
    e.promise(21, "A SHEET truly becomes the marks of a RUN in thought (ints, 60 at most): how many.");
    String[] texts = {"[]", "n0", "{9{6n0}}{5n0}", "{9{6n0}}{6n0}", "{9{6n0}}{7n0}", "{9{9{5n0}}}"};
    int[] marks = {0, 1, 59, 60, 60, 60};
    for (int i = 0; i < texts.length; i++) {
      ClearingGates x = Checks.bank(1, texts[i]);
      x.sheet(1, 0, 30);
      for (int sheet = 0; sheet < 4; sheet++) {
        e.due("film of " + texts[i] + " on " + sheet, x.film(sheet, 0), marks[i]);
        e.due("it tells all", x.tells(sheet, 0, 0, 0), NONE);
        e.due("ints", x.load(sheet, 1, 0, 0), 0);
        e.due("the last item", x.copy(sheet, marks[i], sheet, marks[i], 0), 0);
        e.due("none behind it", x.put(sheet, marks[i], 0), -12);
      }
      e.due("no run was truly", x.count(6), 0);
      e.due("nothing was refused truly", x.count(4), 0);
    }
    e.promise(21, "BAD.");
    ClearingGates y = Checks.bank(1, "n0");
    for (int s : NO_SHEET) {
      e.due("sheet " + s, y.film(s, 0), BAD);
    }
    for (int p : NO_PROGRAM) {
      e.due("program " + p, y.film(0, p), BAD);
    }
    e.due("the sheet is missing still", y.put(0, 0, 0), -11);
  }
}
