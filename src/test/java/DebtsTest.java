/** Promises 17 to 19 and 27: debts, rings, debts loaded from sheets. */
public final class DebtsTest {
  private static final Checks CHECKS = new Checks("DebtsTest");

  public static void main(String[] args) {
    promise17Owe();
    promise18Owed();
    promise19Net();
    promise19Order();
    promise19Gates();
    promise19AllOwe();
    promise27Load();
    promise27Refusals();
    promise27Outside();
    CHECKS.end();
  }

  private static ClearingGates bank(int accounts) {
    ClearingGates x = new ClearingGates();
    for (int i = 0; i < accounts; i++) {
      x.account(0, 0);
    }
    return x;
  }

  private static void promise17Owe() {
    ClearingGates x = bank(3);
    CHECKS.due("was", x.owe(0, 1, 5), 0);
    CHECKS.due("was 5", x.owe(0, 1, 99999), 5);
    CHECKS.due("was 99999", x.owe(0, 1, 0), 99999);
    CHECKS.due("the other way", x.owe(1, 0, 3), 0);
    CHECKS.due("v -1", x.owe(1, 0, -1), ClearingGates.BAD);
    CHECKS.due("v 100000", x.owe(1, 0, 100000), ClearingGates.BAD);
    CHECKS.due("the same", x.owe(1, 1, 1), ClearingGates.BAD);
    CHECKS.due("from -1", x.owe(-1, 1, 1), ClearingGates.BAD);
    CHECKS.due("from 3", x.owe(3, 1, 1), ClearingGates.BAD);
    CHECKS.due("to -1", x.owe(1, -1, 1), ClearingGates.BAD);
    CHECKS.due("to 3", x.owe(1, 3, 1), ClearingGates.BAD);
    CHECKS.due("it stays", x.owed(1, 0), 3);
    CHECKS.due("all that is owed", x.sum(2), 3);
  }

  private static void promise18Owed() {
    ClearingGates x = bank(8);
    for (int from = 0; from < 8; from++) {
      for (int to = 0; to < 8; to++) {
        x.owe(from, to, 10 * from + to);
      }
    }
    for (int from = 0; from < 8; from++) {
      for (int to = 0; to < 8; to++) {
        int want = from == to ? ClearingGates.BAD : 10 * from + to;
        CHECKS.due("owed " + from + " " + to, x.owed(from, to), want);
      }
    }
    CHECKS.due("from -1", x.owed(-1, 0), ClearingGates.BAD);
    CHECKS.due("from 8", x.owed(8, 0), ClearingGates.BAD);
    CHECKS.due("to -1", x.owed(0, -1), ClearingGates.BAD);
    CHECKS.due("to 8", x.owed(0, 8), ClearingGates.BAD);
  }

  private static void promise19Net() {
    ClearingGates x = bank(4);
    x.owe(0, 1, 5);
    x.owe(1, 2, 6);
    CHECKS.due("no ring", x.net(), 0);
    CHECKS.due("debts stay", x.sum(2), 11);
    x.owe(2, 0, 4);
    CHECKS.due("a ring of three", x.net(), 1);
    CHECKS.due("0 to 1", x.owed(0, 1), 1);
    CHECKS.due("1 to 2", x.owed(1, 2), 2);
    CHECKS.due("2 to 0", x.owed(2, 0), 0);
    x.owe(3, 2, 99999);
    x.owe(2, 3, 99999);
    CHECKS.due("a ring of two", x.net(), 1);
    CHECKS.due("both are off", x.sum(2), 3);
  }

  private static void promise19Order() {
    // From 0 to 1 first: 1 leads to 2, that is a ring; the shorter one by 3 comes later.
    ClearingGates x = bank(4);
    x.owe(0, 1, 10);
    x.owe(1, 2, 10);
    x.owe(2, 0, 3);
    x.owe(1, 3, 10);
    x.owe(3, 0, 10);
    CHECKS.due("two rings", x.net(), 2);
    CHECKS.due("1 to 2", x.owed(1, 2), 7);
    CHECKS.due("1 to 3", x.owed(1, 3), 3);
    CHECKS.due("0 to 1", x.owed(0, 1), 0);
    CHECKS.due("3 to 0", x.owed(3, 0), 3);
    // Back to the first one as soon as it is owed, ahead of lesser ways on.
    ClearingGates y = bank(3);
    y.owe(0, 2, 5);
    y.owe(2, 0, 5);
    y.owe(2, 1, 5);
    y.owe(1, 0, 5);
    CHECKS.due("the short ring first", y.net(), 1);
    CHECKS.due("2 to 1", y.owed(2, 1), 5);
    CHECKS.due("2 to 0", y.owed(2, 0), 0);
    // A ring is of unlike ACCOUNTS: 1 and 2, who owe each other, are no part of the way twice.
    ClearingGates u = bank(4);
    u.owe(0, 1, 9);
    u.owe(1, 2, 9);
    u.owe(2, 1, 2);
    u.owe(2, 3, 9);
    u.owe(3, 0, 1);
    CHECKS.due("0 1 2 3, then 1 2", u.net(), 2);
    CHECKS.due("0 to 1", u.owed(0, 1), 8);
    CHECKS.due("1 to 2", u.owed(1, 2), 6);
    CHECKS.due("2 to 1", u.owed(2, 1), 0);
    CHECKS.due("2 to 3", u.owed(2, 3), 8);
    // 0 is of no ring; 1 and 2 go a blind way by 0 first, then step back.
    ClearingGates z = bank(5);
    z.owe(1, 0, 9);
    z.owe(0, 4, 9);
    z.owe(1, 2, 2);
    z.owe(2, 0, 9);
    z.owe(2, 3, 8);
    z.owe(3, 1, 7);
    CHECKS.due("steps back", z.net(), 1);
    CHECKS.due("1 to 2", z.owed(1, 2), 0);
    CHECKS.due("2 to 3", z.owed(2, 3), 6);
    CHECKS.due("3 to 1", z.owed(3, 1), 5);
    CHECKS.due("1 to 0", z.owed(1, 0), 9);
  }

  private static void promise19Gates() {
    ClearingGates x = bank(3);
    CHECKS.due("no rings", x.net(), 0);
    for (int i = 0; i < 3; i++) {
      CHECKS.due("entries", x.told(i, 3), 1);
      CHECKS.due("leavings", x.told(i, 4), 1);
      CHECKS.due("agains", x.told(i, 5), 0);
    }
    CHECKS.due("no marks", x.count(6), 0);
    x.owe(0, 1, 1);
    x.owe(1, 0, 1);
    for (int i = 0; i < 3; i++) {
      x.gate(i, false);
      CHECKS.due("gate " + i + " is missing", x.net(), ClearingGates.STATE);
      x.gate(i, true);
    }
    CHECKS.due("debts stay", x.sum(2), 2);
    CHECKS.due("no entries", x.told(0, 3), 1);
    CHECKS.due("at last", x.net(), 1);
  }

  private static void promise19AllOwe() {
    ClearingGates x = bank(8);
    for (int from = 0; from < 8; from++) {
      for (int to = 0; to < 8; to++) {
        x.owe(from, to, 1 + 13 * from + 7 * to);
      }
    }
    long[] positions = new long[8];
    for (int i = 0; i < 8; i++) {
      positions[i] = x.of(i, 2);
    }
    CHECKS.due("some rings", x.net() > 0);
    CHECKS.due("no ring is left", x.net(), 0);
    for (int i = 0; i < 8; i++) {
      CHECKS.due("positions are as before", x.of(i, 2), positions[i]);
    }
  }

  private static void fill(ClearingGates x, int sheet, int... numbers) {
    for (int i = 0; i < numbers.length; i++) {
      x.put(sheet, i, numbers[i]);
    }
  }

  private static void promise27Load() {
    ClearingGates x = bank(3);
    x.sheet(0, 1, 60);
    fill(x, 0, 7, 0, 1, 500, 1, 2, 99999, 2, 2, 4, 2, 0, 100000, 2, 0, -1, 3, 0, 1, 0, 2, 8);
    CHECKS.due("seven debts, three of which can be", x.load(0, 1, 1, 7), 3);
    CHECKS.due("0 to 1", x.owed(0, 1), 500);
    CHECKS.due("1 to 2", x.owed(1, 2), 99999);
    CHECKS.due("0 to 2", x.owed(0, 2), 8);
    CHECKS.due("all", x.sum(2), 500 + 99999 + 8);
    CHECKS.due("20 debts read from one item ahead: 1 to 0 alone can be", x.load(0, 1, 0, 20), 1);
    CHECKS.due("1 to 0", x.owed(1, 0), 2);
    x.sheet(1, 0, 6);
    fill(x, 1, 1, 0, 255, 256, 257, 256 + 200);
    CHECKS.due("bytes", x.load(1, 0, 0, 2), 2);
    CHECKS.due("a byte is 0 .. 255", x.owed(1, 0), 255);
    CHECKS.due("its lowest 8 bits", x.owed(0, 1), 200);
    CHECKS.due("n 0", x.load(1, 0, 0, 0), 0);
  }

  private static void promise27Refusals() {
    ClearingGates x = bank(2);
    x.sheet(0, 1, 60);
    x.sheet(1, 0, 60);
    CHECKS.due("sheet -1", x.load(-1, 1, 0, 1), ClearingGates.BAD);
    CHECKS.due("sheet 4", x.load(4, 1, 0, 1), ClearingGates.BAD);
    CHECKS.due("sort -1", x.load(0, -1, 0, 1), ClearingGates.BAD);
    CHECKS.due("sort 2", x.load(0, 2, 0, 1), ClearingGates.BAD);
    CHECKS.due("n -1", x.load(0, 1, 0, -1), ClearingGates.BAD);
    CHECKS.due("n 21", x.load(0, 1, 0, 21), ClearingGates.BAD);
    CHECKS.due("n 21 of a missing one", x.load(2, 1, 0, 21), ClearingGates.BAD);
    CHECKS.due("sort -1 of a missing one", x.load(2, -1, 0, 0), ClearingGates.BAD);
    for (int n = 0; n <= 1; n++) {
      CHECKS.due("ints for bytes", x.load(0, 0, 0, n), -13);
      CHECKS.due("bytes for ints", x.load(1, 1, 0, n), -13);
      CHECKS.due("missing", x.load(2, 0, 0, n), -11);
      CHECKS.due("missing for ints", x.load(3, 1, 0, n), -11);
    }
    CHECKS.due("-13 ahead of -12", x.load(0, 0, -1, 1), -13);
  }

  private static void promise27Outside() {
    ClearingGates x = bank(3);
    x.sheet(0, 1, 8);
    fill(x, 0, 0, 1, 5, 1, 2, 6, 2, 0);
    CHECKS.due("the third is half outside", x.load(0, 1, 0, 3), -12);
    CHECKS.due("what stood ahead came", x.owed(0, 1), 5);
    CHECKS.due("that, too", x.owed(1, 2), 6);
    CHECKS.due("the third didn't", x.owed(2, 0), 0);
    int[] outside = {-1, -3, 6, 7, 8, 9, Integer.MAX_VALUE, Integer.MIN_VALUE};
    for (int from : outside) {
      CHECKS.due("from " + from, x.load(0, 1, from, 1), -12);
      CHECKS.due("from " + from + ", 20", x.load(0, 1, from, 20), -12);
      CHECKS.due("none from " + from, x.load(0, 1, from, 0), 0);
    }
    CHECKS.due("just inside", x.load(0, 1, 5, 1), 0);
    x.sheet(0, 1, 0);
    CHECKS.due("an empty sheet", x.load(0, 1, 0, 1), -12);
    CHECKS.due("none of an empty sheet", x.load(0, 1, 0, 0), 0);
  }
}
