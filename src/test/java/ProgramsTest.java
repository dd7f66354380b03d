/** Promises 10 and 11: the tape, and what a program is. */
public final class ProgramsTest {
  private static final Checks CHECKS = new Checks("ProgramsTest");

  public static void main(String[] args) {
    promise10Feed();
    promise10Order();
    promise11Programs();
    promise11Faults();
    promise11Rests();
    promise11Depth();
    promise11Full();
    CHECKS.end();
  }

  private static void promise10Feed() {
    ClearingGates x = new ClearingGates();
    CHECKS.due("n 0", x.feed(0, 1, 1, 1, 1, 1), ClearingGates.BAD);
    CHECKS.due("n 6", x.feed(6, 1, 1, 1, 1, 1), ClearingGates.BAD);
    int[] bad = {-1, 256};
    for (int v : bad) {
      CHECKS.due("a " + v, x.feed(1, v, 0, 0, 0, 0), ClearingGates.BAD);
      CHECKS.due("b " + v, x.feed(1, 0, v, 0, 0, 0), ClearingGates.BAD);
      CHECKS.due("c " + v, x.feed(1, 0, 0, v, 0, 0), ClearingGates.BAD);
      CHECKS.due("d " + v, x.feed(1, 0, 0, 0, v, 0), ClearingGates.BAD);
      CHECKS.due("e " + v, x.feed(1, 0, 0, 0, 0, v), ClearingGates.BAD);
    }
    CHECKS.due("refusals change nothing", x.count(7), 0);
    int size = 0;
    for (int n = 1; n <= 5; n++) {
      size += n;
      CHECKS.due("n " + n, x.feed(n, 0, 255, 0, 255, 0), size);
    }
    for (int i = 0; i < 12; i++) {
      size += 5;
      CHECKS.due("five more", x.feed(5, 1, 1, 1, 1, 1), size);
    }
    CHECKS.due("six too many", x.feed(5, 1, 1, 1, 1, 1), 80);
    CHECKS.due("81", x.feed(1, 1, 1, 1, 1, 1), ClearingGates.FULL);
    CHECKS.due("bad ahead of full", x.feed(1, 1, 1, 1, 1, 256), ClearingGates.BAD);
    CHECKS.due("80 stay", x.count(7), 80);
    ClearingGates y = new ClearingGates();
    Checks.feed(y, "x".repeat(78));
    CHECKS.due("three have no room", y.feed(3, 1, 1, 1, 1, 1), ClearingGates.FULL);
    CHECKS.due("78 stay", y.count(7), 78);
    CHECKS.due("two have room", y.feed(2, 'x', 'x', 1, 1, 1), 80);
    CHECKS.due("80 bytes are a program", y.program(), 0);
  }

  private static void promise10Order() {
    ClearingGates x = new ClearingGates();
    x.account(0, 0);
    x.feed(5, '(', '0', 'n', '0', ')');
    CHECKS.due("bytes in order", x.program(), 0);
    x.run(0);
    CHECKS.dueTrace("(0n0)", x, "10 30 20");
  }

  private static void promise11Programs() {
    String[] texts = {"x", "()", "(0)", "(7)", "[]", "<>", "{1}", "{9}", "[](0)<>{5}xn0a7p011p001123",
        "{1b}", "{1c}", "{2(0[<b>c])}", "{1{1b}c}", "p770", "p019999", "p010000x", "[[[[[[[[x]]]]]]]]",
        "(0(1(2(3(4(5(6(7))))))))"};
    for (String text : texts) {
      ClearingGates x = new ClearingGates();
      int want = text.equals("()") ? -101 : 0;
      CHECKS.due("program " + text, Checks.program(x, text), want);
      CHECKS.due("the tape is empty", x.count(7), 0);
      CHECKS.due("programs", x.count(1), want == 0 ? 1 : 0);
    }
  }

  private static void promise11Faults() {
    Object[][] faults = {{"", 0}, {"(", 1}, {"(8)", 1}, {"(0", 2}, {"(0]", 2}, {"(0>", 2}, {"(0}", 2}, {")", 0},
        {"]", 0}, {">", 0}, {"}", 0}, {"[", 1}, {"[)", 1}, {"<", 1}, {"<]", 1}, {"{", 1}, {"{0}", 1}, {"{a}", 1},
        {"{1", 2}, {"{1)", 2}, {"{10}", 2}, {"(01)", 2}, {"p", 1}, {"p8", 1}, {"p0", 2}, {"p08", 2}, {"p01", 3},
        {"p01x", 3}, {"p01:", 3}, {"p01/", 3}, {"p0112345", 7}, {"p01123x4", 7}, {"n", 1}, {"n8", 1}, {"a", 1},
        {"a/", 1}, {"b", 0}, {"c", 0}, {"xb", 1}, {"{1}b", 3}, {"{1b}c", 4}, {"[b]", 1}, {"{1{1}b}c", 7},
        {"x x", 1}, {" x", 0}, {"x\n", 1}, {"X", 0}, {"0", 0}, {"y", 0}, {"x]", 1}, {"(0)]", 3}, {"\u0000", 0},
        {"\u00ff", 0}, {"[(0]", 3}, {"[(0)", 4}, {"{3(0[(2p)]b)}", 8}};
    for (Object[] fault : faults) {
      ClearingGates x = new ClearingGates();
      String text = (String) fault[0];
      CHECKS.due("fault of " + text, Checks.program(x, text), -100 - (Integer) fault[1]);
      CHECKS.due("the tape is empty behind a fault", x.count(7), 0);
      CHECKS.due("no program", x.count(1), 0);
      CHECKS.due("the next one is number 0", Checks.program(x, "x"), 0);
    }
  }

  /** What an earlier tape left behind doesn't matter, nor what would stand behind the 80th byte. */
  private static void promise11Rests() {
    ClearingGates x = new ClearingGates();
    CHECKS.due("a figure too many", Checks.program(x, "n00"), -102);
    CHECKS.due("no figure any more", Checks.program(x, "n"), -101);
    CHECKS.due("a loop that isn't closed", Checks.program(x, "{1{1"), -104);
    CHECKS.due("no loop any more", Checks.program(x, "b"), -100);
    CHECKS.due("brackets that aren't closed", Checks.program(x, "[[[[[[[["), -108);
    CHECKS.due("none of them any more", Checks.program(x, "]"), -100);
    String[] ends = {"(", "{", "[", "<", "p", "p0", "p01", "n", "a", "(0", "{1", "{1b"};
    for (String end : ends) {
      CHECKS.due("80 bytes, ending by " + end, Checks.program(x, "x".repeat(80 - end.length()) + end), -180);
    }
    CHECKS.due("80 bytes, ending by a payment", Checks.program(x, "x".repeat(76) + "p011"), 0);
  }

  private static void promise11Depth() {
    String[] openers = {"[", "<", "(0", "{1"};
    String[] closers = {"]", ">", ")", "}"};
    for (int i = 0; i < 4; i++) {
      ClearingGates x = new ClearingGates();
      String deep = openers[i].repeat(8) + closers[i].repeat(8);
      CHECKS.due("8 open", Checks.program(x, deep + deep), 0);
      int place = openers[i].length() * 8;
      CHECKS.due("9 open", Checks.program(x, openers[i].repeat(9)), -100 - place);
      CHECKS.due("8 open, then one that can't be", Checks.program(x, openers[i].repeat(8) + "("), -100 - place);
      CHECKS.due("80 bytes end too early", Checks.program(x, "x".repeat(80 - place) + openers[i].repeat(8)), -180);
    }
  }

  private static void promise11Full() {
    ClearingGates x = new ClearingGates();
    for (int i = 0; i < 4; i++) {
      CHECKS.due("program " + i, Checks.program(x, "x"), i);
    }
    CHECKS.due("full ahead of an empty tape's fault", x.program(), ClearingGates.FULL);
    Checks.feed(x, "abc");
    CHECKS.due("full ahead of a fault", x.program(), ClearingGates.FULL);
    CHECKS.due("the tape stays", x.count(7), 3);
    CHECKS.due("four are there", x.count(1), 4);
  }
}
