/** Promises 20 and 21: marks told by sheets, marks filmed. */
public final class ToldTest {
  private static final Checks CHECKS = new Checks("ToldTest");

  public static void main(String[] args) {
    promise20First();
    promise20Sixty();
    promise20Bytes();
    promise20Kinds();
    promise20Refusals();
    promise21Film();
    CHECKS.end();
  }

  private static void fill(ClearingGates x, int sheet, int sort, int... numbers) {
    x.sheet(sheet, sort, numbers.length);
    for (int i = 0; i < numbers.length; i++) {
      x.put(sheet, i, numbers[i]);
    }
  }

  private static void promise20First() {
    ClearingGates x = Checks.bank(2, "(0(1p011))");
    fill(x, 0, 1, 10, 11, 101, 21, 20);
    CHECKS.due("just so", x.tells(0, 0, 0, 0), ClearingGates.NONE);
    CHECKS.due("the account doesn't matter", x.tells(0, 0, 99, 0), ClearingGates.NONE);
    for (int i = 0; i < 5; i++) {
      fill(x, 0, 1, 10, 11, 101, 21, 20);
      x.put(0, i, 12);
      CHECKS.due("otherwise at " + i, x.tells(0, 0, 0, 0), i);
    }
    fill(x, 0, 1, 10, 11, 101, 21, 20, 0);
    CHECKS.due("told, but not there", x.tells(0, 0, 0, 0), 5);
    fill(x, 0, 1, 10, 11, 101);
    CHECKS.due("too few", x.tells(0, 0, 0, 0), 3);
    fill(x, 0, 1);
    CHECKS.due("none", x.tells(0, 0, 0, 0), 0);
    Checks.program(x, "[]");
    CHECKS.due("none of none", x.tells(0, 1, 0, 0), ClearingGates.NONE);
    CHECKS.due("no true run", x.count(6), 0);
  }

  private static void promise20Sixty() {
    ClearingGates x = Checks.bank(1, "{9{9n0}}");
    x.sheet(0, 1, 60);
    for (int i = 0; i < 60; i++) {
      x.put(0, i, 40);
    }
    CHECKS.due("60 at most are there", x.tells(0, 0, 0, 0), ClearingGates.NONE);
    x.put(0, 59, 41);
    CHECKS.due("the last of them", x.tells(0, 0, 0, 0), 59);
    x.sheet(0, 1, 59);
    for (int i = 0; i < 59; i++) {
      x.put(0, i, 40);
    }
    CHECKS.due("59 are too few", x.tells(0, 0, 0, 0), 59);
  }

  private static void promise20Bytes() {
    ClearingGates x = Checks.bank(8, "(6(7p761))");
    fill(x, 0, 0, 16, 17, 176, 27, 26);
    CHECKS.due("bytes are 0 .. 255", x.tells(0, 0, 0, 0), ClearingGates.NONE);
    fill(x, 0, 0, 16 + 256, 17, 176, 27, 26);
    CHECKS.due("their lowest 8 bits", x.tells(0, 0, 0, 0), ClearingGates.NONE);
    fill(x, 0, 1, 16 + 256, 17, 176, 27, 26);
    CHECKS.due("ints are whole", x.tells(0, 0, 0, 0), 0);
  }

  private static void promise20Kinds() {
    ClearingGates x = new ClearingGates();
    x.account(0, 100);
    x.account(0, 100);
    x.set(0, 1, 5);
    Checks.program(x, "(0(1p0195))");
    Checks.program(x, "(0(1p01105))");
    Checks.program(x, "(0(1p01110))");
    x.film(0, 0);
    CHECKS.due("95 can be paid by 0, 2, 3", x.tells(0, 0, 0, 1), 1 | 4 | 8);
    CHECKS.due("the receiver's kind doesn't matter", x.tells(0, 0, 1, 1), 31);
    CHECKS.due("105 by 2, 3", x.tells(0, 1, 0, 1), 4 | 8);
    CHECKS.due("110 by 3", x.tells(0, 2, 0, 1), 8);
    x.film(0, 1);
    CHECKS.due("105 can't by 0, 1, 4", x.tells(0, 1, 0, 1), 1 | 2 | 16);
    x.put(0, 0, 99);
    CHECKS.due("by none", x.tells(0, 1, 0, 1), 0);
    CHECKS.due("kind stays", x.told(0, 0), 0);
  }

  private static void promise20Refusals() {
    ClearingGates x = Checks.bank(2, "n0");
    CHECKS.due("missing", x.tells(0, 0, 0, 0), -11);
    CHECKS.due("missing by 1", x.tells(3, 0, 1, 1), -11);
    CHECKS.due("sheet -1", x.tells(-1, 0, 0, 0), ClearingGates.BAD);
    CHECKS.due("sheet 4", x.tells(4, 0, 0, 0), ClearingGates.BAD);
    CHECKS.due("program -1", x.tells(0, -1, 0, 0), ClearingGates.BAD);
    CHECKS.due("program 1", x.tells(0, 1, 0, 0), ClearingGates.BAD);
    CHECKS.due("what -1", x.tells(0, 0, 0, -1), ClearingGates.BAD);
    CHECKS.due("what 2", x.tells(0, 0, 0, 2), ClearingGates.BAD);
    CHECKS.due("account -1", x.tells(0, 0, -1, 1), ClearingGates.BAD);
    CHECKS.due("account 2", x.tells(0, 0, 2, 1), ClearingGates.BAD);
  }

  private static void promise21Film() {
    ClearingGates x = Checks.bank(2, "(0(1p011))");
    Checks.program(x, "{9{9n0}}");
    Checks.program(x, "[]");
    CHECKS.due("a missing sheet, too", x.film(3, 0), 5);
    CHECKS.due("it tells all", x.tells(3, 0, 0, 0), ClearingGates.NONE);
    CHECKS.due("5 items", x.put(3, 4, 20), 1);
    CHECKS.due("no 6th", x.put(3, 5, 0), -12);
    CHECKS.due("ints", x.load(3, 1, 0, 0), 0);
    x.sheet(0, 0, 7);
    CHECKS.due("bytes become ints", x.film(0, 1), 60);
    CHECKS.due("ints now", x.load(0, 1, 0, 0), 0);
    CHECKS.due("60 are kept", x.tells(0, 1, 0, 0), ClearingGates.NONE);
    CHECKS.due("no marks", x.film(0, 2), 0);
    CHECKS.due("an empty sheet, not a missing one", x.put(0, 0, 0), -12);
    CHECKS.due("sheet -1", x.film(-1, 0), ClearingGates.BAD);
    CHECKS.due("sheet 4", x.film(4, 0), ClearingGates.BAD);
    CHECKS.due("program -1", x.film(0, -1), ClearingGates.BAD);
    CHECKS.due("program 3", x.film(0, 3), ClearingGates.BAD);
    CHECKS.due("no true run", x.count(6), 0);
    CHECKS.due("balances stay", x.of(0, 0), 100);
  }
}
