/** What the tests share: counting answers that are not due, and telling programs as texts. */
final class Checks {
  private final String test;
  private int calls = 0;
  private int wrong = 0;

  Checks(String test) {
    this.test = test;
  }

  void due(String call, long got, long want) {
    calls++;
    if (got != want) {
      wrong++;
      System.out.println(test + ": " + call + " answered " + got + ", due is " + want);
    }
  }

  void due(String call, boolean got) {
    due(call, got ? 1 : 0, 1);
  }

  void end() {
    System.out.println(test + ": " + calls + " answers, " + wrong + " not as due");
    if (wrong != 0 || calls == 0) {
      System.exit(1);
    }
  }

  static void feed(ClearingGates x, String text) {
    for (int i = 0; i < text.length(); i += 5) {
      int n = Math.min(5, text.length() - i);
      x.feed(n, byteAt(text, i), byteAt(text, i + 1), byteAt(text, i + 2), byteAt(text, i + 3), byteAt(text, i + 4));
    }
  }

  static int program(ClearingGates x, String text) {
    feed(x, text);
    return x.program();
  }

  /** A bank with that many PLAIN accounts of 100 each, and one program, number 0. */
  static ClearingGates bank(int accounts, String text) {
    ClearingGates x = new ClearingGates();
    for (int i = 0; i < accounts; i++) {
      x.account(0, 100);
    }
    if (program(x, text) != 0) {
      throw new IllegalStateException("no program: " + text);
    }
    return x;
  }

  static String trace(ClearingGates x) {
    StringBuilder marks = new StringBuilder();
    for (int i = 0; i < x.count(6); i++) {
      marks.append(i == 0 ? "" : " ").append(x.trace(i));
    }
    return marks.toString();
  }

  void dueTrace(String text, ClearingGates x, String want) {
    String got = trace(x);
    calls++;
    if (!got.equals(want)) {
      wrong++;
      System.out.println(test + ": the trace of " + text + " is " + got + ", due is " + want);
    }
  }

  private static int byteAt(String text, int i) {
    return i < text.length() ? text.charAt(i) : 0;
  }
}
