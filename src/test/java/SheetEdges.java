/** Edges of images and of SHEETS: promises 22 to 26. */
final class SheetEdges {
  private static final int BAD = Edges.BAD, NONE = Edges.NONE, LEAST = Edges.LEAST, GREATEST = Edges.GREATEST;
  private static final int[] NO_SHEET = {LEAST, -1, 4, GREATEST};

  private final Edges e;

  SheetEdges(Edges e) {
    this.e = e;
  }

  void all() {
    imageKeeps();
    imageKeepsAccounts();
    imageKeepsPrograms();
    sheetsAtFirst();
    sheetNumbers();
    image();
    back();
    sheet();
    sheetRefusals();
    put();
    putRefusals();
    copy();
    copyRefusals();
    copyOutside();
  }

  private void imageKeeps() {
    e.terms("AN IMAGE keeps ACCOUNTS, FEES, all counts, PROGRAMS, OWED (not THE TRACE).");
    ClearingGates x = new ClearingGates();
    x.account(1, 100);
    x.account(4, 200);
    Checks.program(x, "(0(1(1p0110)n0)n1)n7[x]");
    x.set(1, 1, 9999);
    x.gate(1, true);
    x.owe(1, 0, 99999);
    x.run(0);
    x.image();
    String kept = state(x);
    Checks.program(x, "n1n2");
    x.run(0);
    x.account(3, 5);
    x.set(0, 0, 1);
    x.set(1, 1, 0);
    x.owe(1, 0, 0);
    x.owe(0, 1, 3);
    x.net();
    x.gate(0, false);
    x.run(1);
    e.due("all is otherwise", !state(x).equals(kept));
    x.back();
    e.due("all is as it was: " + kept, state(x).equals(kept));
    e.dueTrace("the trace is of the latest run still", x, "41 42");
    x.run(0);
    e.dueTrace("the program is there still", x, "10 11 11 101 21 30 21 41 20 54");
  }

  /** All that can be seen of two ACCOUNTS and of the bank, but THE TRACE and THE TAPE. */
  private static String state(ClearingGates x) {
    StringBuilder all = new StringBuilder();
    for (int what = 0; what <= 5; what++) {
      all.append(x.count(what)).append(' ');
    }
    for (int what = 0; what <= 2; what++) {
      all.append(x.sum(what)).append(' ');
    }
    for (int a = 0; a < 3; a++) {
      for (int what = 0; what <= 6; what++) {
        all.append(x.told(a, what)).append(' ');
      }
      for (int what = 0; what <= 2; what++) {
        all.append(x.of(a, what)).append(' ');
      }
      for (int other = 0; other < 3; other++) {
        all.append(x.owed(a, other)).append(' ');
      }
    }
    return all.toString();
  }

  private void imageKeepsAccounts() {
    ClearingGates x = new ClearingGates();
    x.image();
    for (int a = 0; a < 8; a++) {
      x.account(4, 10 * a);
      x.set(a, 1, 9);
    }
    x.owe(7, 0, 5);
    x.gate(7, false);
    e.due("back to none", x.back(), 0);
    e.due("none", x.count(0), 0);
    e.due("nothing is owed", x.sum(2), 0);
    for (int a = 0; a < 8; a++) {
      e.due("they come anew", x.account(0, 1), a);
      int[] fresh = {0, 0, 1, 0, 0, 0, 0};
      for (int what = 0; what <= 6; what++) {
        e.due("told " + a + " " + what, x.told(a, what), fresh[what]);
      }
    }
    e.due("no debt from before", x.owed(7, 0), 0);
    e.due("a ninth", x.account(0, 0), Edges.FULL);
    e.due("eight, in an image", x.image(), 8);
    x.set(7, 0, 77);
    x.back();
    e.due("the eighth is as it was", x.of(7, 0), 1);
  }

  private void imageKeepsPrograms() {
    ClearingGates x = Checks.bank(1, "n0");
    x.image();
    for (int i = 1; i < 4; i++) {
      e.due("program " + i, Checks.program(x, "x"), i);
    }
    e.due("full", Checks.program(x, "(0)"), Edges.FULL);
    x.back();
    e.due("the tape stays", x.count(7), 3);
    e.due("the others are gone", x.run(1), BAD);
    e.due("there is room for it", x.program(), 1);
    x.run(1);
    e.dueTrace("the new one", x, "10 20");
    x.image();
    x.back();
    x.run(1);
    e.dueTrace("kept", x, "10 20");
    x.run(0);
    e.dueTrace("the first one is kept, too", x, "40");
    e.due("a fault where one could come", Checks.program(x, "(0(0(0"), -106);
    x.back();
    x.run(1);
    e.dueTrace("a fault changes none that is kept", x, "10 20");
    x.sheet(0, 1, 5);
    x.back();
    e.due("sheets stay", x.put(0, 4, 1), 1);
  }

  private void sheetsAtFirst() {
    e.terms("SHEETS 0 .. 3 are rows of numbers, or missing (as all are at first): of sort 0 bytes, 1 ints.");
    ClearingGates x = new ClearingGates();
    for (int s = 0; s < 4; s++) {
      e.due("sheet " + s + " at first", x.put(s, 0, 0), -11);
      e.due("sheet " + s + ", of bytes", x.sheet(s, 0, 1), 1);
      e.due("bytes", x.load(s, 0, 0, 0), 0);
      e.due("not ints", x.load(s, 1, 0, 0), -13);
      e.due("sheet " + s + ", of ints", x.sheet(s, 1, 1), 1);
      e.due("ints", x.load(s, 1, 0, 0), 0);
      e.due("not bytes", x.load(s, 0, 0, 0), -13);
    }
    for (int s : NO_SHEET) {
      e.due("sheet " + s, x.sheet(s, 0, 1), BAD);
    }
    for (int s = 0; s < 4; s++) {
      x.sheet(s, 1, 3);
      x.put(s, 1, 10 + s);
    }
    ClearingGates other = new ClearingGates();
    e.due("another object's are missing", other.put(0, 0, 0), -11);
  }

  private void sheetNumbers() {
    e.terms("of SHEETS: -11 it is missing, -12 a place outside, -13 a thing of another sort or KIND, "
        + "-14 a size below 0.");
    ClearingGates x = Checks.bank(1, "n0");
    x.sheet(0, 1, 3);
    x.sheet(1, 0, 3);
    e.due("put, missing", x.put(2, 0, 0), -11);
    e.due("copy, missing", x.copy(0, 0, 2, 0, 0), -11);
    e.due("load, missing", x.load(2, 1, 0, 0), -11);
    e.due("tells, missing", x.tells(2, 0, 0, 0), -11);
    e.due("put, outside", x.put(0, 3, 0), -12);
    e.due("copy, outside", x.copy(0, 0, 0, 0, 4), -12);
    e.due("load, outside", x.load(0, 1, 1, 1), -12);
    e.due("trace, outside", x.trace(0), -12);
    e.due("copy, another sort", x.copy(0, 0, 1, 0, 0), -13);
    e.due("load, another sort", x.load(0, 0, 0, 0), -13);
    e.due("taken, another kind", x.taken(0, 1), -13);
    e.due("sheet, below 0", x.sheet(0, 1, -1), -14);
  }

  private void image() {
    e.promise(22, "AN IMAGE is kept: how many ACCOUNTS.");
    ClearingGates x = new ClearingGates();
    e.due("none", x.image(), 0);
    for (int a = 0; a < 8; a++) {
      x.account(0, a);
      e.due("of " + (a + 1), x.image(), a + 1);
    }
    x.set(7, 0, 70);
    x.back();
    e.due("the latest image", x.of(7, 0), 7);
  }

  private void back() {
    e.promise(23, "All that it keeps is as in THE IMAGE: how many ACCOUNTS.");
    ClearingGates x = Checks.bank(8, "(0(1p0130))");
    x.image();
    for (int time = 0; time < 3; time++) {
      x.run(0);
      e.due("a payment", x.of(0, 0), 70);
      e.due("back", x.back(), 8);
      e.due("as it was", x.of(0, 0), 100);
      e.due("entries as they were", x.told(0, 3), 0);
    }
    ClearingGates none = new ClearingGates();
    none.image();
    none.account(0, 0);
    e.due("back to none", none.back(), 0);
    e.promise(23, "STATE: there is none.");
    ClearingGates y = Checks.bank(2, "x");
    e.due("no image", y.back(), Edges.STATE);
    e.due("nothing is changed", y.count(0), 2);
    y.image();
    e.due("one", y.back(), 2);
    e.due("of an empty bank", new ClearingGates().back(), Edges.STATE);
  }

  private static int sizeOf(ClearingGates x, int sheet) {
    int size = 0;
    while (size <= 61 && x.copy(sheet, size + 1, sheet, size + 1, 0) == 0) {
      size++;
    }
    return size;
  }

  /** An item 0 .. 99999 of a SHEET, read by way of another SHEET and a debt. */
  private static int item(ClearingGates x, int sheet, int i, int sort, int by) {
    x.sheet(by, sort, 3);
    x.put(by, 1, 1);
    x.copy(sheet, i, by, 2, 1);
    return x.load(by, sort, 0, 1) == 1 ? x.owed(0, 1) : NONE;
  }

  private void sheet() {
    e.promise(24, "A SHEET becomes a row of n of a sort, all 0, or missing (sort -1: n does not matter): 1.");
    int[] sizes = {60, 0, 1, 59};
    ClearingGates x = Checks.bank(2, "[]");
    for (int sort = 0; sort <= 1; sort++) {
      for (int n : sizes) {
        e.due("of " + n, x.sheet(3, sort, n), 1);
        e.due("size", sizeOf(x, 3), n);
        e.due("sort", x.load(3, sort, 0, 0), 0);
      }
    }
    for (int sort = 0; sort <= 1; sort++) {
      ClearingGates y = Checks.bank(2, "[]");
      y.sheet(0, sort, 60);
      for (int i = 0; i < 60; i++) {
        y.put(0, i, 7);
      }
      y.sheet(0, sort, 60);
      for (int i = 0; i < 60; i += i < 57 ? 19 : 1) {
        e.due("all 0, item " + i, item(y, 0, i, sort, 1), 0);
      }
      y.put(0, 59, 7);
      y.sheet(0, -1, 0);
      y.sheet(0, sort, 60);
      e.due("0 behind a missing one", item(y, 0, 59, sort, 1), 0);
    }
    int[] any = {LEAST, -1, 0, 60, 61, GREATEST};
    for (int n : any) {
      x.sheet(3, 1, 2);
      e.due("missing with n " + n, x.sheet(3, -1, n), 1);
      e.due("it is", x.put(3, 0, 0), -11);
      e.due("missing once more", x.sheet(3, -1, n), 1);
    }
  }

  private void sheetRefusals() {
    ClearingGates x = Checks.bank(2, "[]");
    x.sheet(0, 1, 2);
    x.put(0, 1, 9);
    e.promise(24, "BAD: no such SHEET, sort; n above 60;");
    for (int s : NO_SHEET) {
      e.due("sheet " + s, x.sheet(s, 1, 1), BAD);
      e.due("sheet " + s + " missing", x.sheet(s, -1, 1), BAD);
      e.due("sheet " + s + " of -1", x.sheet(s, 1, -1), BAD);
    }
    int[] sorts = {LEAST, -2, 2, GREATEST};
    for (int sort : sorts) {
      e.due("sort " + sort, x.sheet(0, sort, 1), BAD);
      e.due("sort " + sort + " of -1", x.sheet(0, sort, -1), BAD);
    }
    for (int sort = 0; sort <= 1; sort++) {
      e.due("61", x.sheet(0, sort, 61), BAD);
      e.due("the greatest", x.sheet(0, sort, GREATEST), BAD);
    }
    e.due("the size stays", sizeOf(x, 0), 2);
    e.due("its items stay", item(x, 0, 1, 1, 1), 9);
    e.promise(24, "-14.");
    for (int sort = 0; sort <= 1; sort++) {
      e.due("-1", x.sheet(0, sort, -1), -14);
      e.due("the least", x.sheet(0, sort, LEAST), -14);
      e.due("of a missing one", x.sheet(2, sort, -1), -14);
    }
    e.due("it is missing still", x.put(2, 0, 0), -11);
    e.due("the size stays", sizeOf(x, 0), 2);
    e.due("its items stay", item(x, 0, 1, 1, 1), 9);
  }

  private void put() {
    e.promise(25, "Item i of a SHEET becomes v (of bytes its lowest 8 bits): 1.");
    ClearingGates x = Checks.bank(2, "[]");
    x.sheet(0, 0, 60);
    x.sheet(1, 1, 60);
    int[] v = {0, 1, 127, 128, 255, 256, 257, 99999, -1, -256, LEAST, GREATEST};
    int[] bits = {0, 1, 127, 128, 255, 0, 1, 99999 % 256, 255, 0, 0, 255};
    for (int i = 0; i < v.length; i++) {
      e.due("a byte", x.put(0, 59, v[i]), 1);
      e.due("lowest 8 bits of " + v[i], item(x, 0, 59, 0, 2), bits[i]);
      e.due("an int", x.put(1, 59, v[i]), 1);
      e.due("all of " + v[i], item(x, 1, 59, 1, 3), v[i] >= 0 && v[i] <= 99999 ? v[i] : NONE);
    }
    e.due("the first byte", x.put(0, 0, 3), 1);
    e.due("it is that", item(x, 0, 0, 0, 2), 3);
    e.due("the one behind stays", item(x, 0, 1, 0, 2), 0);
    e.due("another sheet's stays", item(x, 1, 0, 1, 3), 0);
  }

  private void putRefusals() {
    ClearingGates x = Checks.bank(2, "[]");
    e.promise(25, "BAD: no such SHEET;");
    for (int s : NO_SHEET) {
      e.due("sheet " + s, x.put(s, 0, 0), BAD);
      e.due("sheet " + s + ", outside", x.put(s, -1, 0), BAD);
    }
    e.promise(25, "-11;");
    for (int s = 0; s < 4; s++) {
      e.due("sheet " + s, x.put(s, 0, 0), -11);
      e.due("sheet " + s + ", outside", x.put(s, -1, 0), -11);
    }
    e.promise(25, "-12.");
    int[] sizes = {0, 1, 60};
    for (int n : sizes) {
      for (int sort = 0; sort <= 1; sort++) {
        x.sheet(0, sort, n);
        int[] outside = {LEAST, -1, n, n + 1, 60, GREATEST};
        for (int i : outside) {
          e.due("item " + i + " of " + n, x.put(0, i, 1), -12);
        }
        for (int i = n - 1; i < n && i >= 0; i++) {
          e.due("item " + i + " of " + n, x.put(0, i, 1), 1);
        }
      }
    }
  }

  /** A bank whose PROGRAM 0 has the marks 10 11 12 22 21 20, which SHEET 0 tells. */
  private static ClearingGates filmed() {
    ClearingGates x = Checks.bank(3, "(0(1(2)))");
    x.film(0, 0);
    return x;
  }

  private void copy() {
    e.promise(26, "n numbers of a SHEET, from item i on, come to another one's item j on (as they were): n.");
    ClearingGates x = filmed();
    x.sheet(1, 1, 6);
    e.due("none", x.copy(0, 0, 1, 0, 0), 0);
    e.due("none came", x.tells(1, 0, 0, 0), 0);
    for (int i = 0; i < 6; i++) {
      e.due("item " + i, x.copy(0, i, 1, i, 1), 1);
      e.due("it came", x.tells(1, 0, 0, 0), i == 5 ? NONE : i + 1);
    }
    x.sheet(2, 1, 60);
    e.due("all, to the end", x.copy(0, 0, 2, 54, 6), 6);
    x.sheet(1, 1, 6);
    e.due("all, from the end", x.copy(2, 54, 1, 0, 6), 6);
    e.due("all came", x.tells(1, 0, 0, 0), NONE);
    e.due("they stay where they were", x.tells(0, 0, 0, 0), NONE);
    e.due("60", x.copy(2, 0, 2, 0, 60), 60);
    e.due("to themselves", x.copy(0, 0, 0, 0, 6), 6);
    e.due("they are as they were", x.tells(0, 0, 0, 0), NONE);
    x.sheet(1, 1, 8);
    x.copy(0, 0, 1, 2, 6);
    e.due("to the left, over themselves", x.copy(1, 2, 1, 0, 6), 6);
    e.due("as they were", x.copy(1, 0, 0, 0, 6) == 6 && x.tells(0, 0, 0, 0) == NONE);
    e.due("to the right, over themselves", x.copy(1, 0, 1, 2, 6), 6);
    e.due("as they were, too", x.copy(1, 2, 0, 0, 6) == 6 && x.tells(0, 0, 0, 0) == NONE);
    ClearingGates bytes = Checks.bank(2, "[]");
    bytes.sheet(0, 0, 2);
    bytes.sheet(1, 0, 2);
    bytes.put(0, 1, 255);
    e.due("bytes", bytes.copy(0, 1, 1, 0, 1), 1);
    e.due("the byte came", item(bytes, 1, 0, 0, 2), 255);
    e.due("the one behind stays", item(bytes, 1, 1, 0, 2), 0);
  }

  private void copyRefusals() {
    ClearingGates x = filmed();
    x.sheet(1, 1, 6);
    x.sheet(2, 0, 6);
    e.promise(26, "BAD: no such SHEET;");
    for (int s : NO_SHEET) {
      e.due("from " + s, x.copy(s, 0, 0, 0, 1), BAD);
      e.due("to " + s, x.copy(0, 0, s, 0, 1), BAD);
      e.due("from " + s + " to a missing one", x.copy(s, 0, 3, 0, -1), BAD);
      e.due("from a missing one to " + s, x.copy(3, 0, s, 0, -1), BAD);
    }
    e.promise(26, "-11;");
    e.due("from a missing one", x.copy(3, 0, 0, 0, 0), -11);
    e.due("to a missing one", x.copy(0, 0, 3, 0, 0), -11);
    e.due("both", x.copy(3, 0, 3, 0, 0), -11);
    e.due("ahead of -12", x.copy(3, -1, 0, 0, -1), -11);
    e.due("ahead of -12, too", x.copy(0, -1, 3, 0, -1), -11);
    e.promise(26, "-13: they are of unlike sorts;");
    e.due("ints to bytes", x.copy(0, 0, 2, 0, 1), -13);
    e.due("bytes to ints", x.copy(2, 0, 0, 0, 1), -13);
    e.due("none of them", x.copy(0, 0, 2, 0, 0), -13);
    e.due("ahead of -12", x.copy(0, -1, 2, 0, -1), -13);
    e.due("nothing came", x.tells(0, 0, 0, 0), NONE);
  }

  private void copyOutside() {
    e.promise(26, "-12 (also with n below 0).");
    ClearingGates x = filmed();
    x.sheet(1, 1, 3);
    int[][] outside = {{0, 0, -1}, {0, 0, LEAST}, {3, 3, -1}, {6, 3, -3}, {-1, 0, 1}, {0, -1, 1}, {-1, 0, 0}, {0, -1, 0},
        {7, 0, 0}, {0, 4, 0}, {6, 0, 1}, {0, 3, 1}, {4, 0, 3}, {0, 1, 3}, {0, 0, 4}, {0, 0, 7}, {LEAST, 0, 1},
        {0, LEAST, 1}, {GREATEST, 0, 1}, {0, GREATEST, 1}, {GREATEST, 0, 0}, {1, 0, GREATEST}, {0, 1, GREATEST},
        {GREATEST, GREATEST, GREATEST}, {LEAST, LEAST, LEAST}, {1, 1, GREATEST}, {1, 2, GREATEST}, {3, 3, GREATEST},
        {2, 2, GREATEST - 1}, {-1, -1, 1}, {-1, -1, 2}, {-2, -2, LEAST}};
    for (int[] o : outside) {
      e.due("from " + o[0] + " to " + o[1] + ", " + o[2], x.copy(0, o[0], 1, o[1], o[2]), -12);
      e.due("within one, from " + o[0] + " to " + o[1] + ", " + o[2], x.copy(1, o[0], 1, o[1], o[2]), -12);
    }
    int[][] inside = {{0, 0, 0}, {6, 3, 0}, {6, 0, 0}, {0, 3, 0}, {3, 0, 3}, {5, 2, 1}};
    for (int[] i : inside) {
      e.due("from " + i[0] + " to " + i[1] + ", " + i[2], x.copy(0, i[0], 1, i[1], i[2]), i[2]);
    }
  }
}
