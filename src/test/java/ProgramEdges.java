/** Edges of PROGRAMS and THE TAPE, and of promises 10 and 11. */
final class ProgramEdges {
  private static final int BAD = Edges.BAD, FULL = Edges.FULL;
  private static final String STARTS = "([<{pxna", FIGURES = "0123456789";

  private final Edges e;

  ProgramEdges(Edges e) {
    this.e = e;
  }

  void all() {
    four();
    eighty();
    items();
    blocks();
    triesAndLoops();
    payments();
    singles();
    empty();
    depth();
    faults();
    feed();
    feedRefusals();
    program();
  }

  private static int read(String text) {
    return Checks.program(new ClearingGates(), text);
  }

  private void dueProgram(String text) {
    e.due("program " + text, read(text), 0);
  }

  private void dueFault(String text, int fault) {
    e.due("fault of " + text, read(text), -100 - fault);
  }

  /** Of all 256 bytes just those may stand behind the text: the others are its FAULT. */
  private void dueNext(String text, String may) {
    for (int v = 0; v < 256; v++) {
      int got = read(text + (char) v);
      boolean goesOn = got != -100 - text.length();
      e.due("byte " + v + " behind '" + text + "' answered " + got, goesOn == may.indexOf(v) >= 0);
    }
  }

  private void four() {
    e.terms("PROGRAMS (4 at most, numbered from 0)");
    ClearingGates x = new ClearingGates();
    for (int i = 0; i < 4; i++) {
      e.due("none yet", x.run(i), BAD);
      e.due("program " + i, Checks.program(x, "x"), i);
      e.due("it is there", x.run(i), 4);
    }
    e.due("a fifth", Checks.program(x, "x"), FULL);
    e.due("it is not there", x.run(4), BAD);
  }

  private void eighty() {
    e.terms("are read from THE TAPE (80 bytes at most):");
    ClearingGates x = Checks.bank(1, "x");
    Checks.feed(x, "{5" + "n0".repeat(38) + "}");
    e.due("79 bytes", x.count(7), 79);
    e.due("one more than 80", x.feed(2, 'x', 'x', 0, 0, 0), FULL);
    e.due("the 80th", x.feed(1, 'x', 0, 0, 0, 0), 80);
    e.due("an 81st", x.feed(1, 'x', 0, 0, 0, 0), FULL);
    e.due("program of 80", x.program(), 1);
    e.due("its last byte", x.run(1), 4);
    e.due("all of it", x.count(4), 190);
  }

  private void items() {
    e.terms("ITEMS, one or more, one behind the other, no blanks.");
    dueFault("", 0);
    dueProgram("x");
    dueProgram("xx");
    dueProgram("x[](0)<>{1}n0a0p001x");
    dueFault(" x", 0);
    dueFault("x x", 1);
    dueFault("x ", 1);
    dueFault("( 0)", 1);
    dueFault("(0 )", 2);
    dueFault("[ ]", 1);
    dueFault("p 011", 1);
    dueFault("n 0", 1);
    dueFault("x\t", 1);
    dueNext("", STARTS);
    dueNext("x", STARTS);
  }

  private void blocks() {
    e.terms("ITEM: ( D ITEMS ) a BLOCK of GATE D (a figure 0 .. 7);");
    for (int d = 0; d < 8; d++) {
      dueProgram("(" + d + ")");
      dueProgram("(" + d + "x)");
    }
    dueNext("(", "01234567");
    dueNext("(0", STARTS + ")");
    dueNext("(7x", STARTS + ")");
    dueFault("(01)", 2);
    dueFault("()", 1);
    dueFault("(-1)", 1);
  }

  private void triesAndLoops() {
    e.terms("[ ITEMS ] a TRY; < ITEMS > a NARROW TRY;");
    dueProgram("[x]");
    dueProgram("<x>");
    dueNext("[", STARTS + "]");
    dueNext("[x", STARTS + "]");
    dueNext("<", STARTS + ">");
    dueNext("<x", STARTS + ">");
    e.terms("{ N ITEMS } a LOOP (N a figure 1 .. 9);");
    for (int n = 1; n <= 9; n++) {
      dueProgram("{" + n + "}");
    }
    dueNext("{", "123456789");
    dueNext("{1", STARTS + "bc}");
    dueNext("{9x", STARTS + "bc}");
    dueFault("{0}", 1);
    dueFault("{10}", 2);
  }

  private void payments() {
    e.terms("p F T V a payment (F, T figures 0 .. 7, V 1 to 4 figures, as many as stand there, the 5th can't);");
    dueNext("p", "01234567");
    dueNext("p0", "01234567");
    dueNext("p77", FIGURES);
    dueNext("p010", STARTS + FIGURES);
    dueNext("p0199", STARTS + FIGURES);
    dueNext("p01999", STARTS + FIGURES);
    dueNext("p010000", STARTS);
    dueNext("p019999", STARTS);
    dueProgram("p000");
    dueProgram("p779999");
    dueFault("p0100000", 7);
    dueFault("p01", 3);
    int[] v = {0, 7, 9, 10, 99, 100, 999, 1000, 9999};
    for (int value : v) {
      ClearingGates x = new ClearingGates();
      x.account(0, 10000);
      x.account(0, 0);
      Checks.program(x, "(0(1p01" + value + "))");
      x.run(0);
      e.due("paid " + value, x.of(1, 0), value);
    }
    ClearingGates zeros = Checks.bank(2, "(0(1p010012p010003))");
    zeros.run(0);
    e.due("0012 and 0003", zeros.of(1, 0), 115);
  }

  private void singles() {
    e.terms("x; b, c (only within a LOOP);");
    dueProgram("x");
    String[] within = {"{1b}", "{1c}", "{1bc}", "{1(0b)}", "{1[c]}", "{1<b>}", "{1{1}b}", "{1{1b}c}", "{1(0[<c>])}"};
    for (String text : within) {
      dueProgram(text);
    }
    String[] outside = {"", "x", "(0", "[", "<", "{1}", "{1b}", "(0{1}", "{1{1}}"};
    for (String text : outside) {
      dueFault(text + "b", text.length());
      dueFault(text + "c", text.length());
    }
    ClearingGates x = new ClearingGates();
    e.due("a tape that ends within a loop", Checks.program(x, "{1{1"), -104);
    e.due("b on the next tape is in none", Checks.program(x, "b"), -100);
    e.due("nor is c", Checks.program(x, "xc"), -101);
    e.terms("n D, a D.");
    dueNext("n", "01234567");
    dueNext("a", "01234567");
    dueNext("n0", STARTS);
    dueNext("a7", STARTS);
  }

  private void empty() {
    e.terms("Within brackets ITEMS may be none.");
    String[] texts = {"(0)", "[]", "<>", "{1}", "[[]]", "(0(0))", "<{9[]}>"};
    for (String text : texts) {
      dueProgram(text);
      e.due("outcome of " + text, Checks.bank(1, text).run(0), 0);
    }
  }

  private void depth() {
    e.terms("At most 8 brackets are open at once.");
    String[] openers = {"(0", "[", "<", "{1"};
    String[] closers = {")", "]", ">", "}"};
    for (int i = 0; i < 4; i++) {
      String open = openers[i].repeat(8);
      String close = closers[i].repeat(8);
      dueProgram(open + close);
      dueProgram(open + "x" + close);
      dueProgram(open + close + "[]");
      dueProgram(openers[i].repeat(7) + "[]<>(0){1}" + closers[i].repeat(7));
      dueNext(open, "pxna" + closers[i] + (i == 3 ? "bc" : ""));
      for (int ninth = 0; ninth < 4; ninth++) {
        dueFault(open + openers[ninth] + closers[ninth] + close, open.length());
      }
      dueNext(openers[i].repeat(7), STARTS + closers[i] + (i == 3 ? "bc" : ""));
    }
    dueProgram("(0[<{1(0[<{1}>])}>])");
    dueFault("(0[<{1(0[<{1[]}>])}>])", 12);
  }

  private void faults() {
    e.terms("FAULT: the place (from 0) of the first byte with which no PROGRAM goes on");
    dueFault("?", 0);
    dueFault("x?", 1);
    dueFault("x??", 1);
    dueFault("x?)", 1);
    dueFault("(8]", 1);
    dueFault("([", 1);
    dueFault("[(0]", 3);
    dueFault("[(0)>", 4);
    dueFault("x".repeat(79) + "?", 79);
    String[] closers = {")", "]", ">", "}"};
    String[] openers = {"(0", "[", "<", "{1"};
    for (int i = 0; i < 4; i++) {
      dueFault(closers[i], 0);
      dueFault(openers[i] + closers[i] + closers[i], openers[i].length() + 1);
      for (int other = 0; other < 4; other++) {
        if (other != i) {
          dueFault(openers[i] + closers[other], openers[i].length());
        }
      }
    }
    e.terms("(the size, if it ends too early).");
    dueFault("", 0);
    String[] early = {"(", "(0", "(0x", "[", "[x", "<", "{", "{1", "{1b", "p", "p0", "p01", "n", "a", "[]<", "[[]"};
    for (String text : early) {
      dueFault(text, text.length());
      dueFault("x".repeat(80 - text.length()) + text, 80);
    }
    dueFault("[[[[[[[[", 8);
  }

  private void feed() {
    e.promise(10, "n bytes (1 .. 5;");
    ClearingGates x = new ClearingGates();
    int[] outside = {Edges.LEAST, -1, 0, 6, Edges.GREATEST};
    for (int n : outside) {
      e.due("n " + n, x.feed(n, 'x', 'x', 'x', 'x', 'x'), BAD);
    }
    e.due("nothing came", x.count(7), 0);
    int size = 0;
    for (int n = 1; n <= 5; n++) {
      size += n;
      e.due("n " + n, x.feed(n, 'x', 'x', 'x', 'x', 'x'), size);
    }
    e.promise(10, "a, b, c, d, e, those first,");
    int[] all = {'n', '0', 'a', '1', '?'};
    for (int n = 1; n <= 5; n++) {
      ClearingGates y = new ClearingGates();
      y.feed(n, all[0], all[1], all[2], all[3], all[4]);
      // n0 and n0a1 are PROGRAMS, the others end too early, or by the last byte.
      int want = n == 2 || n == 4 ? 0 : n == 5 ? -104 : -100 - n;
      e.due("the first " + n, y.program(), want);
    }
    ClearingGates z = Checks.bank(1, "x");
    z.feed(5, '(', '0', 'n', '0', ')');
    z.feed(3, 'a', '0', 'x', ')', ')');
    z.run(z.program());
    e.dueTrace("in their order", z, "10 30 20 40");
  }

  private void feedRefusals() {
    e.promise(10, "each 0 .. 255, the others, too)");
    int[] outside = {Edges.LEAST, -1, 256, Edges.GREATEST};
    int[] inside = {0, 255};
    for (int n = 1; n <= 5; n++) {
      for (int place = 0; place < 5; place++) {
        int[] b = {1, 1, 1, 1, 1};
        ClearingGates x = new ClearingGates();
        for (int v : outside) {
          b[place] = v;
          e.due(n + " bytes, " + v + " at " + place, x.feed(n, b[0], b[1], b[2], b[3], b[4]), BAD);
        }
        e.due("nothing came", x.count(7), 0);
        int size = 0;
        for (int v : inside) {
          b[place] = v;
          size += n;
          e.due(n + " bytes, " + v + " at " + place, x.feed(n, b[0], b[1], b[2], b[3], b[4]), size);
        }
      }
    }
    e.promise(10, "come to THE TAPE: how many it has.");
    ClearingGates y = new ClearingGates();
    for (int size = 1; size <= 80; size++) {
      e.due("byte " + size, y.feed(1, 'x', 0, 0, 0, 0), size);
    }
    e.due("80", y.count(7), 80);
    e.promise(10, "BAD; FULL: they have no room.");
    for (int n = 1; n <= 5; n++) {
      ClearingGates z = new ClearingGates();
      Checks.feed(z, "x".repeat(81 - n));
      e.due(n + " bytes, room for one less", z.feed(n, 0, 0, 0, 0, 0), FULL);
      e.due("none came", z.count(7), 81 - n);
      e.due("bad ahead of full", z.feed(n, 0, 0, 0, 0, 256), BAD);
      ClearingGates just = new ClearingGates();
      Checks.feed(just, "x".repeat(80 - n));
      e.due(n + " bytes, just room", just.feed(n, 0, 0, 0, 0, 0), 80);
    }
    e.due("n is bad ahead of full", y.feed(0, 0, 0, 0, 0, 0), BAD);
    e.due("n is bad ahead of full, too", y.feed(6, 0, 0, 0, 0, 0), BAD);
  }

  private void program() {
    e.promise(11, "THE TAPE, which is empty then (by a FAULT, too), is a PROGRAM: its number;");
    ClearingGates x = new ClearingGates();
    e.due("a program", Checks.program(x, "n0"), 0);
    e.due("the tape is empty", x.count(7), 0);
    e.due("a fault", Checks.program(x, "n0(0"), -104);
    e.due("the tape is empty by it, too", x.count(7), 0);
    e.due("an empty one", x.program(), -100);
    e.due("no more programs", x.count(1), 1);
    e.due("the next number", Checks.program(x, "n0"), 1);
    e.promise(11, "-100 less its FAULT.");
    e.due("least", read(""), -100);
    e.due("one", read("("), -101);
    e.due("greatest", read("x".repeat(79) + "["), -180);
    e.promise(11, "FULL (ahead of all; THE TAPE stays).");
    ClearingGates y = new ClearingGates();
    y.account(0, 0);
    y.image();
    for (int i = 0; i < 4; i++) {
      Checks.program(y, "x");
    }
    e.due("ahead of an empty tape's fault", y.program(), FULL);
    Checks.feed(y, "(0");
    e.due("ahead of a fault", y.program(), FULL);
    Checks.feed(y, "n0)");
    e.due("a fifth", y.program(), FULL);
    e.due("the tape's size stays", y.count(7), 5);
    y.back();
    e.due("it is a program when there is room", y.program(), 0);
    y.run(0);
    e.dueTrace("of the bytes that stayed", y, "10 30 20");
  }
}
