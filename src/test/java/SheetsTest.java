/** Promises 24 to 26: sheets. */
public final class SheetsTest {
  private static final Checks CHECKS = new Checks("SheetsTest");

  public static void main(String[] args) {
    promise24Sheet();
    promise24Zero();
    promise25Put();
    promise26Copy();
    promise26Overlap();
    promise26Refusals();
    CHECKS.end();
  }

  private static int sizeOf(ClearingGates x, int sheet) {
    int size = 0;
    while (size <= 60 && x.copy(sheet, size, sheet, size, 1) == 1) {
      size++;
    }
    return size;
  }

  private static void promise24Sheet() {
    ClearingGates x = new ClearingGates();
    int[] sizes = {0, 1, 59, 60};
    for (int n : sizes) {
      for (int sort = 0; sort <= 1; sort++) {
        CHECKS.due("a sheet", x.sheet(2, sort, n), 1);
        CHECKS.due("of size " + n, sizeOf(x, 2), n);
        CHECKS.due("of its sort", x.load(2, sort, 0, 0), 0);
      }
    }
    CHECKS.due("n 61", x.sheet(2, 1, 61), ClearingGates.BAD);
    CHECKS.due("n -1", x.sheet(2, 1, -1), -14);
    CHECKS.due("n least", x.sheet(2, 0, Integer.MIN_VALUE), -14);
    CHECKS.due("sheet -1", x.sheet(-1, 1, 1), ClearingGates.BAD);
    CHECKS.due("sheet 4", x.sheet(4, 1, 1), ClearingGates.BAD);
    CHECKS.due("sheet 4, n -1", x.sheet(4, 1, -1), ClearingGates.BAD);
    CHECKS.due("sort 2", x.sheet(2, 2, 1), ClearingGates.BAD);
    CHECKS.due("sort -2", x.sheet(2, -2, 1), ClearingGates.BAD);
    CHECKS.due("sort 2, n -1", x.sheet(2, 2, -1), ClearingGates.BAD);
    CHECKS.due("refusals change nothing", sizeOf(x, 2), 60);
    CHECKS.due("missing, n doesn't matter", x.sheet(2, -1, 61), 1);
    CHECKS.due("it is", x.put(2, 0, 0), -11);
    CHECKS.due("missing with n below 0", x.sheet(2, -1, -1), 1);
  }

  private static void promise24Zero() {
    ClearingGates x = Checks.bank(2, "[]");
    x.sheet(0, 1, 6);
    for (int i = 0; i < 6; i++) {
      x.put(0, i, 9 - i);
    }
    x.sheet(0, 1, 3);
    x.put(0, 1, 1);
    CHECKS.due("0 0 0 now, with a 1 put: 0 owes 1 nothing", x.load(0, 1, 0, 1), 1);
    CHECKS.due("nothing", x.owed(0, 1), 0);
    x.sheet(0, 1, 60);
    x.put(0, 58, 1);
    x.sheet(0, -1, 0);
    x.sheet(0, 1, 60);
    CHECKS.due("0 to 0 is refused", x.load(0, 1, 57, 1), 0);
  }

  private static void promise25Put() {
    ClearingGates x = Checks.bank(2, "[]");
    x.sheet(0, 1, 3);
    x.sheet(1, 0, 3);
    x.put(0, 0, 1);
    CHECKS.due("a great int", x.put(0, 2, 99999), 1);
    x.load(0, 1, 0, 1);
    CHECKS.due("it is whole", x.owed(1, 0), 99999);
    x.put(1, 1, 257);
    CHECKS.due("a great number for a byte", x.put(1, 2, -1), 1);
    x.load(1, 0, 0, 1);
    CHECKS.due("its lowest 8 bits", x.owed(0, 1), 255);
    CHECKS.due("i -1", x.put(0, -1, 1), -12);
    CHECKS.due("i 3", x.put(0, 3, 1), -12);
    CHECKS.due("i greatest", x.put(0, Integer.MAX_VALUE, 1), -12);
    CHECKS.due("missing", x.put(2, -1, 1), -11);
    CHECKS.due("sheet -1", x.put(-1, 0, 1), ClearingGates.BAD);
    CHECKS.due("sheet 4", x.put(4, 0, 1), ClearingGates.BAD);
  }

  /** A bank whose program 0 has the marks 10 11 12 22 21 20, which sheet 0 then tells. */
  private static ClearingGates filmed() {
    ClearingGates x = Checks.bank(3, "(0(1(2)))");
    x.film(0, 0);
    return x;
  }

  private static void promise26Copy() {
    ClearingGates x = filmed();
    x.sheet(1, 1, 6);
    CHECKS.due("six", x.copy(0, 0, 1, 0, 6), 6);
    CHECKS.due("all came", x.tells(1, 0, 0, 0), ClearingGates.NONE);
    x.sheet(1, 1, 6);
    CHECKS.due("two", x.copy(0, 0, 1, 0, 2), 2);
    CHECKS.due("two came", x.tells(1, 0, 0, 0), 2);
    CHECKS.due("four", x.copy(0, 2, 1, 2, 4), 4);
    CHECKS.due("four came", x.tells(1, 0, 0, 0), ClearingGates.NONE);
    CHECKS.due("none", x.copy(0, 6, 1, 6, 0), 0);
    CHECKS.due("none change", x.tells(1, 0, 0, 0), ClearingGates.NONE);
    CHECKS.due("the first stays", x.tells(0, 0, 0, 0), ClearingGates.NONE);
  }

  private static void promise26Overlap() {
    ClearingGates x = filmed();
    x.sheet(1, 1, 7);
    x.copy(0, 0, 1, 1, 6);
    CHECKS.due("to the left", x.copy(1, 1, 1, 0, 6), 6);
    x.sheet(2, 1, 6);
    x.copy(1, 0, 2, 0, 6);
    CHECKS.due("as they were", x.tells(2, 0, 0, 0), ClearingGates.NONE);
    CHECKS.due("to the right", x.copy(1, 0, 1, 1, 6), 6);
    x.copy(1, 1, 2, 0, 6);
    CHECKS.due("as they were, too", x.tells(2, 0, 0, 0), ClearingGates.NONE);
  }

  private static void promise26Refusals() {
    ClearingGates x = new ClearingGates();
    x.sheet(0, 1, 5);
    x.sheet(1, 1, 3);
    x.sheet(2, 0, 5);
    CHECKS.due("sheet -1", x.copy(-1, 0, 0, 0, 0), ClearingGates.BAD);
    CHECKS.due("sheet 4", x.copy(4, 0, 0, 0, 0), ClearingGates.BAD);
    CHECKS.due("other -1", x.copy(0, 0, -1, 0, 0), ClearingGates.BAD);
    CHECKS.due("other 4", x.copy(3, 0, 4, 0, 0), ClearingGates.BAD);
    CHECKS.due("missing", x.copy(3, 0, 0, 0, -1), -11);
    CHECKS.due("other missing", x.copy(0, 0, 3, 0, -1), -11);
    CHECKS.due("unlike sorts", x.copy(0, 0, 2, 0, -1), -13);
    int most = Integer.MAX_VALUE;
    int[][] outside = {{0, 0, -1}, {-1, 0, 1}, {0, -1, 1}, {3, 0, 3}, {0, 1, 3}, {0, 0, 4}, {6, 0, 0}, {0, 4, 0},
        {-1, 0, 0}, {most, 0, 1}, {0, most, 1}, {1, 1, most}, {0, 0, Integer.MIN_VALUE}};
    for (int[] o : outside) {
      CHECKS.due("from " + o[0] + " to " + o[1] + " of " + o[2], x.copy(0, o[0], 1, o[1], o[2]), -12);
    }
    CHECKS.due("just inside", x.copy(0, 2, 1, 0, 3), 3);
    CHECKS.due("none at the ends", x.copy(0, 5, 1, 3, 0), 0);
  }
}
