/**
 * A clearing bank whose accounts have gates. What each call promises stands in the document DOC.md; words in capitals
 * are its terms.
 *
 * <p>All rows are made with the object and used again, so no later call makes one.
 */
public final class ClearingGates {
  public static final int NONE = -1, BAD = -2, STATE = -3, FULL = -4;
  public static final long NO = Long.MIN_VALUE;

  private static final int MISSING_SHEET = -11, OUTSIDE = -12, OTHER_SORT = -13, BELOW_ZERO = -14;
  private static final int FAULT_BASE = -100;
  private static final int MOST_ACCOUNTS = 8, MOST_PROGRAMS = 4, MOST_SHEETS = 4;
  private static final int MOST_BYTES = 80, MOST_OPEN = 8, MOST_ITEMS = 500, MOST_MARKS = 60;
  private static final int MOST_BALANCE = 1000000000, MOST_LIMIT = 9999, MOST_OWED = 99999;
  private static final int MOST_LOADED = 20, NEEDED_STEPS = 22, FIRST_BALANCE = 10;

  private final Books books;
  private final Books imageBooks;
  private final Debts debts;
  private final Debts imageDebts;
  private final Rings rings;
  private final Program[] programs;
  private int programCount;
  private int imagePrograms;
  private final Tape tape;
  private final Reader reader;
  private final Runner truly;
  private final Runner thought;
  private final Sheet[] sheets;

  public ClearingGates() {
    books = new Books();
    imageBooks = new Books();
    debts = new Debts();
    imageDebts = new Debts();
    rings = new Rings(debts);
    programs = new Program[MOST_PROGRAMS];
    for (int i = 0; i < MOST_PROGRAMS; i++) {
      programs[i] = new Program();
    }
    imagePrograms = NONE;
    tape = new Tape();
    reader = new Reader();
    truly = new Runner(books);
    thought = new Runner(new Books());
    sheets = new Sheet[MOST_SHEETS];
    for (int i = 0; i < MOST_SHEETS; i++) {
      sheets[i] = new Sheet();
    }
  }

  // ---- accounts

  public int account(int kind, int balance) {
    if (!Kinds.isKind(kind) || !isWithin(balance, MOST_BALANCE)) {
      return BAD;
    }
    if (books.accounts >= MOST_ACCOUNTS) {
      return FULL;
    }
    return books.open(kind, balance);
  }

  public long set(int account, int what, int v) {
    if (!books.has(account)) {
      return NO;
    }
    if (what == 0 && isWithin(v, MOST_BALANCE)) {
      int was = books.balances[account];
      books.balances[account] = v;
      return was;
    }
    if (what == 1 && isWithin(v, MOST_LIMIT)) {
      int was = books.limits[account];
      books.limits[account] = v;
      return was;
    }
    return NO;
  }

  public int gate(int account, boolean is) {
    if (!books.has(account)) {
      return BAD;
    }
    boolean was = books.gates[account];
    books.gates[account] = is;
    return was ? 1 : 0;
  }

  public int told(int account, int what) {
    if (!books.has(account)) {
      return BAD;
    }
    switch (what) {
      case 0: return books.kinds[account];
      case 1: return books.limits[account];
      case 2: return books.gates[account] ? 1 : 0;
      case 3: return books.entries[account];
      case 4: return books.leavings[account];
      case 5: return books.agains[account];
      case 6: return books.feeOf(account, 100);
      default: return BAD;
    }
  }

  public long of(int account, int what) {
    if (!books.has(account)) {
      return NO;
    }
    switch (what) {
      case 0: return books.balances[account];
      case 1: return books.floorOf(account);
      case 2: return debts.positionOf(account);
      default: return NO;
    }
  }

  public int count(int what) {
    switch (what) {
      case 0: return books.accounts;
      case 1: return programCount;
      case 2: return books.missed;
      case 3: return books.bells;
      case 4: return books.refused;
      case 5: return books.caught;
      case 6: return truly.keptMarks();
      case 7: return tape.size;
      default: return BAD;
    }
  }

  public long sum(int what) {
    switch (what) {
      case 0: return books.fees;
      case 1: return books.allMoney();
      case 2: return debts.total();
      default: return NO;
    }
  }

  public int taken(int account, int k) {
    if (!books.has(account) || !Kinds.isKind(k)) {
      return BAD;
    }
    return Kinds.isOrIsUnder(books.kinds[account], k) ? books.limits[account] : OTHER_SORT;
  }

  // ---- programs

  public int feed(int n, int a, int b, int c, int d, int e) {
    if (n < 1 || n > 5) {
      return BAD;
    }
    if (!isByte(a) || !isByte(b) || !isByte(c) || !isByte(d) || !isByte(e)) {
      return BAD;
    }
    if (tape.size + n > MOST_BYTES) {
      return FULL;
    }
    tape.add(a);
    if (n > 1) {
      tape.add(b);
    }
    if (n > 2) {
      tape.add(c);
    }
    if (n > 3) {
      tape.add(d);
    }
    if (n > 4) {
      tape.add(e);
    }
    return tape.size;
  }

  public int program() {
    if (programCount >= MOST_PROGRAMS) {
      return FULL;
    }
    Program next = programs[programCount];
    next.takeOver(tape);
    tape.size = 0;
    int fault = reader.faultOf(next);
    if (fault != NONE) {
      return FAULT_BASE - fault;
    }
    programCount++;
    return programCount - 1;
  }

  public int run(int program) {
    if (!isProgram(program)) {
      return BAD;
    }
    return truly.outcomeOf(programs[program]);
  }

  public int trace(int i) {
    if (i < 0 || i >= truly.keptMarks()) {
      return OUTSIDE;
    }
    return truly.marks[i];
  }

  // ---- in thought

  public long would(int program, int what) {
    if (!isProgram(program) || !isOfWould(what)) {
      return NO;
    }
    int outcome = outcomeInThought(program);
    switch (what) {
      case 0: return outcome;
      case 1: return thought.books.fees;
      case 2: return thought.markCount;
      case 3: return thought.books.allEntries() - books.allEntries();
      default: return thought.books.balances[what - FIRST_BALANCE];
    }
  }

  public int needed(int program, int account) {
    if (!isProgram(program) || !books.has(account)) {
      return BAD;
    }
    for (int step = 0; step < NEEDED_STEPS; step++) {
      int balance = step == 0 ? 0 : 1 << (step - 1);
      thought.books.becomeAs(books);
      thought.books.balances[account] = balance;
      if (thought.outcomeOf(programs[program]) == 0) {
        return balance;
      }
    }
    return NONE;
  }

  public int hinges(int program) {
    if (!isProgram(program)) {
      return BAD;
    }
    int outcome = outcomeInThought(program);
    int bits = 0;
    for (int account = 0; account < books.accounts; account++) {
      thought.books.becomeAs(books);
      thought.books.gates[account] = !books.gates[account];
      if (thought.outcomeOf(programs[program]) != outcome) {
        bits |= 1 << account;
      }
    }
    return bits;
  }

  // ---- debts

  public int owe(int from, int to, int v) {
    if (!isPair(from, to) || !isWithin(v, MOST_OWED)) {
      return BAD;
    }
    int was = debts.between(from, to);
    debts.become(from, to, v);
    return was;
  }

  public int owed(int from, int to) {
    if (!isPair(from, to)) {
      return BAD;
    }
    return debts.between(from, to);
  }

  public int net() {
    if (!books.hasAllGates()) {
      return STATE;
    }
    books.enterAll();
    int cut = rings.cutAll(books.accounts);
    books.leaveAll();
    return cut;
  }

  // ---- what was told

  public int tells(int sheet, int program, int account, int what) {
    if (!isSheet(sheet) || !isProgram(program) || what < 0 || what > 1) {
      return BAD;
    }
    if (what == 1 && !books.has(account)) {
      return BAD;
    }
    Sheet row = sheets[sheet];
    if (row.isMissing()) {
      return MISSING_SHEET;
    }
    if (row.size > MOST_MARKS) {
      return BAD;
    }
    if (what == 1) {
      return kindsToldBy(row, program, account);
    }
    outcomeInThought(program);
    return row.firstUnlike(thought.marks, thought.keptMarks());
  }

  public int film(int sheet, int program) {
    if (!isSheet(sheet) || !isProgram(program)) {
      return BAD;
    }
    outcomeInThought(program);
    sheets[sheet].takeOver(thought.marks, thought.keptMarks());
    return thought.keptMarks();
  }

  public int image() {
    imageBooks.becomeAs(books);
    imageDebts.becomeAs(debts);
    // PROGRAMS only ever come behind those that an image knows, so their number is enough.
    imagePrograms = programCount;
    return books.accounts;
  }

  public int back() {
    if (imagePrograms == NONE) {
      return STATE;
    }
    books.becomeAs(imageBooks);
    debts.becomeAs(imageDebts);
    programCount = imagePrograms;
    return books.accounts;
  }

  // ---- the host

  public int sheet(int sheet, int sort, int n) {
    if (!isSheet(sheet) || sort < Sheet.MISSING || sort > Sheet.INTS) {
      return BAD;
    }
    if (sort == Sheet.MISSING) {
      sheets[sheet].become(Sheet.MISSING, 0);
      return 1;
    }
    if (n > Sheet.MOST_ITEMS) {
      return BAD;
    }
    if (n < 0) {
      return BELOW_ZERO;
    }
    sheets[sheet].become(sort, n);
    return 1;
  }

  public int put(int sheet, int i, int v) {
    if (!isSheet(sheet)) {
      return BAD;
    }
    Sheet row = sheets[sheet];
    if (row.isMissing()) {
      return MISSING_SHEET;
    }
    if (!row.hasPlace(i)) {
      return OUTSIDE;
    }
    row.write(i, v);
    return 1;
  }

  public int copy(int sheet, int i, int other, int j, int n) {
    if (!isSheet(sheet) || !isSheet(other)) {
      return BAD;
    }
    Sheet source = sheets[sheet];
    Sheet target = sheets[other];
    if (source.isMissing() || target.isMissing()) {
      return MISSING_SHEET;
    }
    if (source.sort != target.sort) {
      return OTHER_SORT;
    }
    if (!source.hasStretch(i, n) || !target.hasStretch(j, n)) {
      return OUTSIDE;
    }
    System.arraycopy(source.items, i, target.items, j, n);
    return n;
  }

  public int load(int sheet, int sort, int from, int n) {
    if (!isSheet(sheet) || sort < Sheet.BYTES || sort > Sheet.INTS || !isWithin(n, MOST_LOADED)) {
      return BAD;
    }
    Sheet row = sheets[sheet];
    if (row.isMissing()) {
      return MISSING_SHEET;
    }
    if (row.sort != sort) {
      return OTHER_SORT;
    }
    int came = 0;
    for (int debt = 0; debt < n; debt++) {
      int place = from + 3 * debt;
      if (!row.hasStretch(place, 3)) {
        return OUTSIDE;
      }
      if (owe(row.items[place], row.items[place + 1], row.items[place + 2]) != BAD) {
        came++;
      }
    }
    return came;
  }

  // ---- what several calls ask

  private static boolean isWithin(int v, int most) {
    return v >= 0 && v <= most;
  }

  private static boolean isByte(int v) {
    return isWithin(v, 255);
  }

  private static boolean isSheet(int sheet) {
    return sheet >= 0 && sheet < MOST_SHEETS;
  }

  private boolean isProgram(int program) {
    return program >= 0 && program < programCount;
  }

  private boolean isPair(int from, int to) {
    return books.has(from) && books.has(to) && from != to;
  }

  private boolean isOfWould(int what) {
    if (what >= FIRST_BALANCE) {
      return books.has(what - FIRST_BALANCE);
    }
    return isWithin(what, 3);
  }

  private int outcomeInThought(int program) {
    thought.books.becomeAs(books);
    return thought.outcomeOf(programs[program]);
  }

  private int kindsToldBy(Sheet row, int program, int account) {
    int bits = 0;
    for (int kind = 0; kind < Kinds.COUNT; kind++) {
      thought.books.becomeAs(books);
      thought.books.kinds[account] = kind;
      thought.outcomeOf(programs[program]);
      if (row.firstUnlike(thought.marks, thought.keptMarks()) == NONE) {
        bits |= 1 << kind;
      }
    }
    return bits;
  }

  private static final class Kinds {
    static final int PLAIN = 0, SAVER = 1, CREDIT = 2, GOLD = 3, TITHE = 4, COUNT = 5;

    static boolean isKind(int kind) {
      return kind >= 0 && kind < COUNT;
    }

    static int feeOf(int kind, int v) {
      switch (kind) {
        case SAVER: return 1;
        case TITHE: return v / 10 + 1;
        default: return 0;
      }
    }

    static int floorOf(int kind, int limit) {
      switch (kind) {
        case SAVER: return 10;
        case CREDIT: return -limit;
        case GOLD: return -limit - limit;
        default: return 0;
      }
    }

    static boolean isOrIsUnder(int kind, int above) {
      if (kind == above || above == PLAIN) {
        return true;
      }
      return kind == GOLD && above == CREDIT || kind == TITHE && above == SAVER;
    }
  }

  private static final class Books {
    final int[] kinds = new int[MOST_ACCOUNTS];
    final int[] balances = new int[MOST_ACCOUNTS];
    final int[] limits = new int[MOST_ACCOUNTS];
    final boolean[] gates = new boolean[MOST_ACCOUNTS];
    final int[] entries = new int[MOST_ACCOUNTS];
    final int[] leavings = new int[MOST_ACCOUNTS];
    final int[] agains = new int[MOST_ACCOUNTS];
    int accounts;
    long fees;
    int missed;
    int bells;
    int refused;
    int caught;

    boolean has(int account) {
      return account >= 0 && account < accounts;
    }

    boolean hasGate(int account) {
      return has(account) && gates[account];
    }

    boolean hasAllGates() {
      for (int account = 0; account < accounts; account++) {
        if (!gates[account]) {
          return false;
        }
      }
      return true;
    }

    int open(int kind, int balance) {
      int account = accounts;
      kinds[account] = kind;
      balances[account] = balance;
      limits[account] = 0;
      gates[account] = true;
      entries[account] = 0;
      leavings[account] = 0;
      agains[account] = 0;
      accounts++;
      return account;
    }

    int feeOf(int account, int v) {
      return Kinds.feeOf(kinds[account], v);
    }

    int floorOf(int account) {
      return Kinds.floorOf(kinds[account], limits[account]);
    }

    long allMoney() {
      long all = fees;
      for (int account = 0; account < accounts; account++) {
        all += balances[account];
      }
      return all;
    }

    int allEntries() {
      int all = 0;
      for (int account = 0; account < accounts; account++) {
        all += entries[account];
      }
      return all;
    }

    void enterAll() {
      for (int account = 0; account < accounts; account++) {
        entries[account]++;
      }
    }

    void leaveAll() {
      for (int account = accounts - 1; account >= 0; account--) {
        leavings[account]++;
      }
    }

    void becomeAs(Books other) {
      System.arraycopy(other.kinds, 0, kinds, 0, MOST_ACCOUNTS);
      System.arraycopy(other.balances, 0, balances, 0, MOST_ACCOUNTS);
      System.arraycopy(other.limits, 0, limits, 0, MOST_ACCOUNTS);
      System.arraycopy(other.entries, 0, entries, 0, MOST_ACCOUNTS);
      System.arraycopy(other.leavings, 0, leavings, 0, MOST_ACCOUNTS);
      System.arraycopy(other.agains, 0, agains, 0, MOST_ACCOUNTS);
      for (int account = 0; account < MOST_ACCOUNTS; account++) {
        gates[account] = other.gates[account];
      }
      accounts = other.accounts;
      fees = other.fees;
      missed = other.missed;
      bells = other.bells;
      refused = other.refused;
      caught = other.caught;
    }
  }

  private static final class Debts {
    private final int[] row = new int[MOST_ACCOUNTS * MOST_ACCOUNTS];

    int between(int from, int to) {
      return row[from * MOST_ACCOUNTS + to];
    }

    void become(int from, int to, int v) {
      row[from * MOST_ACCOUNTS + to] = v;
    }

    long total() {
      long all = 0;
      for (int place = 0; place < row.length; place++) {
        all += row[place];
      }
      return all;
    }

    long positionOf(int account) {
      long position = 0;
      for (int other = 0; other < MOST_ACCOUNTS; other++) {
        position += between(other, account) - between(account, other);
      }
      return position;
    }

    void becomeAs(Debts other) {
      System.arraycopy(other.row, 0, row, 0, row.length);
    }
  }

  private static final class Rings {
    // Each cut clears one debt at least.
    private static final int MOST_CUTS = MOST_ACCOUNTS * MOST_ACCOUNTS;

    private final Debts debts;
    private final int[] way = new int[MOST_ACCOUNTS];
    private int wayLength;
    private final boolean[] tried = new boolean[MOST_ACCOUNTS];

    Rings(Debts debts) {
      this.debts = debts;
    }

    int cutAll(int accounts) {
      for (int cut = 0; cut < MOST_CUTS; cut++) {
        if (!findsFirst(accounts)) {
          return cut;
        }
        cutFound();
      }
      return MOST_CUTS;
    }

    private boolean findsFirst(int accounts) {
      for (int first = 0; first < accounts; first++) {
        for (int account = 0; account < accounts; account++) {
          tried[account] = false;
        }
        if (leadsBack(first, first, 0, accounts)) {
          return true;
        }
      }
      return false;
    }

    /**
     * An ACCOUNT once stepped back from is not tried again: all that it reaches is on the way or was stepped back from,
     * too, so it finds no way back later either.
     */
    private boolean leadsBack(int account, int first, int depth, int accounts) {
      if (depth >= MOST_ACCOUNTS) {
        return false;
      }
      way[depth] = account;
      tried[account] = true;
      if (depth > 0 && debts.between(account, first) > 0) {
        wayLength = depth + 1;
        return true;
      }
      for (int next = 0; next < accounts; next++) {
        if (!tried[next] && debts.between(account, next) > 0 && leadsBack(next, first, depth + 1, accounts)) {
          return true;
        }
      }
      return false;
    }

    private void cutFound() {
      int least = MOST_OWED;
      for (int step = 0; step < wayLength; step++) {
        least = Math.min(least, debts.between(way[step], behind(step)));
      }
      for (int step = 0; step < wayLength; step++) {
        int owed = debts.between(way[step], behind(step));
        debts.become(way[step], behind(step), owed - least);
      }
    }

    private int behind(int step) {
      return step + 1 < wayLength ? way[step + 1] : way[0];
    }
  }

  private static final class Tape {
    final int[] bytes = new int[MOST_BYTES];
    int size;

    void add(int v) {
      if (size < MOST_BYTES) {
        bytes[size] = v;
        size++;
      }
    }
  }

  private static final class Program {
    final int[] bytes = new int[MOST_BYTES];
    // Where an ITEM begins, the place behind it: so a RUN need not look for closing brackets.
    final int[] behind = new int[MOST_BYTES];
    int size;

    void takeOver(Tape tape) {
      System.arraycopy(tape.bytes, 0, bytes, 0, MOST_BYTES);
      size = tape.size;
    }

    int byteAt(int place) {
      return place >= 0 && place < size ? bytes[place] : NONE;
    }

    int behindItem(int place) {
      return place >= 0 && place < size ? behind[place] : size;
    }

    int figureAt(int place) {
      return byteAt(place) - '0';
    }

    int numberBetween(int from, int end) {
      int number = 0;
      for (int place = from; place < end; place++) {
        number = number * 10 + byteAt(place) - '0';
      }
      return number;
    }
  }

  private static final class Reader {
    private final int[] opened = new int[MOST_OPEN];
    private int open;
    private int loops;
    private int fault;
    private Program program;

    /** Reads a PROGRAM and notes where its ITEMS end: its FAULT, or NONE. */
    int faultOf(Program read) {
      program = read;
      open = 0;
      loops = 0;
      fault = NONE;
      int place = 0;
      for (int steps = 0; steps < read.size && place < read.size && fault == NONE; steps++) {
        place = step(place);
      }
      if (fault == NONE && (open > 0 || read.size == 0)) {
        fault = read.size;
      }
      return fault;
    }

    private int step(int place) {
      switch (program.byteAt(place)) {
        case '(': return openingWithFigure(place, '0', '7');
        case '{': return openingWithFigure(place, '1', '9');
        case '[': case '<': return opening(place);
        case ')': return closing(place, '(');
        case '}': return closing(place, '{');
        case ']': return closing(place, '[');
        case '>': return closing(place, '<');
        case 'p': return payment(place);
        case 'n': case 'a': return bell(place);
        case 'b': case 'c': return loops > 0 ? ends(place, place + 1) : faultAt(place);
        case 'x': return ends(place, place + 1);
        default: return faultAt(place);
      }
    }

    private int openingWithFigure(int place, int least, int most) {
      int inside = opening(place);
      if (fault == NONE && !isFigure(inside, least, most)) {
        return faultAt(inside);
      }
      return inside + 1;
    }

    private int opening(int place) {
      if (open >= MOST_OPEN) {
        return faultAt(place);
      }
      opened[open] = place;
      open++;
      if (program.byteAt(place) == '{') {
        loops++;
      }
      return place + 1;
    }

    private int closing(int place, int opener) {
      if (open == 0 || program.byteAt(opened[open - 1]) != opener) {
        return faultAt(place);
      }
      open--;
      if (opener == '{') {
        loops--;
      }
      return ends(opened[open], place + 1);
    }

    private int payment(int place) {
      int value = place + 3;
      for (int party = place + 1; party < value; party++) {
        if (!isFigure(party, '0', '7')) {
          return faultAt(party);
        }
      }
      if (!isFigure(value, '0', '9')) {
        return faultAt(value);
      }
      int end = value + 1;
      while (end < value + 4 && isFigure(end, '0', '9')) {
        end++;
      }
      return ends(place, end);
    }

    private int bell(int place) {
      return isFigure(place + 1, '0', '7') ? ends(place, place + 2) : faultAt(place + 1);
    }

    private boolean isFigure(int place, int least, int most) {
      return program.byteAt(place) >= least && program.byteAt(place) <= most;
    }

    private int ends(int begin, int end) {
      program.behind[begin] = end;
      return end;
    }

    private int faultAt(int place) {
      fault = place;
      return place + 1;
    }
  }

  private static final class Runner {
    private static final int DONE = 0, SHORT = 1, UNGUARDED = 2, WRONG = 3, UNDONE = 4, LONG = 5;
    // How ITEMS can end beside being done or by a FAILURE.
    private static final int BROKEN = 6, GONE_ON = 7;
    private static final int ENTERED = 10, LEFT = 20, RUNG = 30, UNHEARD = 40, CAUGHT = 50, PAID = 100;

    final Books books;
    final int[] marks = new int[MOST_MARKS];
    int markCount;
    private final int[] held = new int[MOST_ACCOUNTS];
    private final int[][] keptBalances = new int[MOST_OPEN + 1][MOST_ACCOUNTS];
    private final long[] keptFees = new long[MOST_OPEN + 1];
    private int begun;
    private Program program;

    Runner(Books books) {
      this.books = books;
    }

    int keptMarks() {
      return Math.min(markCount, MOST_MARKS);
    }

    int outcomeOf(Program told) {
      program = told;
      markCount = 0;
      begun = 0;
      keep(0);
      int how = items(0, told.size, 0);
      if (how != DONE) {
        undo(0);
      }
      return how;
    }

    private int items(int from, int end, int depth) {
      int place = from;
      int how = DONE;
      while (place < end && how == DONE) {
        how = item(place, depth);
        place = Math.max(place + 1, program.behindItem(place));
      }
      return how;
    }

    private int item(int place, int depth) {
      if (begun >= MOST_ITEMS) {
        return LONG;
      }
      begun++;
      switch (program.byteAt(place)) {
        case '(': return block(place, depth);
        case '[': return attempt(place, depth, UNDONE);
        case '<': return attempt(place, depth, UNGUARDED);
        case '{': return loop(place, depth);
        case 'p': return payment(place);
        case 'x': return UNDONE;
        case 'b': return BROKEN;
        case 'c': return GONE_ON;
        case 'n': return bell(program.figureAt(place + 1), 1);
        case 'a': return bell(program.figureAt(place + 1), 2);
        default: return DONE;
      }
    }

    private int inside(int place, int from, int depth) {
      if (depth >= MOST_OPEN) {
        return LONG;
      }
      return items(from, program.behindItem(place) - 1, depth + 1);
    }

    private int block(int place, int depth) {
      int account = program.figureAt(place + 1);
      if (!books.hasGate(account)) {
        books.missed++;
        return DONE;
      }
      if (held[account] == 0 && isGreaterHeld(account)) {
        return WRONG;
      }
      books.entries[account]++;
      if (held[account] > 0) {
        books.agains[account]++;
      }
      held[account]++;
      mark(ENTERED + account);
      int how = inside(place, place + 2, depth);
      held[account]--;
      books.leavings[account]++;
      mark(LEFT + account);
      return how;
    }

    /** Ends FAILURES up to the last one here: they are numbered so that those of a NARROW TRY come first. */
    private int attempt(int place, int depth, int last) {
      keep(depth + 1);
      int how = inside(place, place + 1, depth);
      if (how < SHORT || how > last) {
        return how;
      }
      undo(depth + 1);
      books.caught++;
      mark(CAUGHT + how);
      return DONE;
    }

    private int loop(int place, int depth) {
      int times = program.figureAt(place + 1);
      for (int time = 0; time < times; time++) {
        int how = inside(place, place + 2, depth);
        if (how == BROKEN) {
          return DONE;
        }
        if (how != DONE && how != GONE_ON) {
          return how;
        }
      }
      return DONE;
    }

    private int payment(int place) {
      int from = program.figureAt(place + 1);
      int to = program.figureAt(place + 2);
      if (from == to || !isHeld(from) || !isHeld(to)) {
        return UNGUARDED;
      }
      int v = program.numberBetween(place + 3, program.behindItem(place));
      int fee = books.feeOf(from, v);
      int left = books.balances[from] - v - fee;
      if (left < books.floorOf(from) || books.balances[to] + v > MOST_BALANCE) {
        return SHORT;
      }
      books.balances[from] = left;
      books.balances[to] += v;
      books.fees += fee;
      mark(PAID + 10 * from + to);
      return DONE;
    }

    private int bell(int account, int bells) {
      if (!books.hasGate(account)) {
        books.missed++;
      } else if (isHeld(account)) {
        books.bells += bells;
        mark(RUNG + account);
      } else {
        books.refused++;
        mark(UNHEARD + account);
      }
      return DONE;
    }

    private boolean isHeld(int account) {
      return books.has(account) && held[account] > 0;
    }

    private boolean isGreaterHeld(int account) {
      for (int greater = account + 1; greater < MOST_ACCOUNTS; greater++) {
        if (held[greater] > 0) {
          return true;
        }
      }
      return false;
    }

    private void mark(int v) {
      if (markCount < MOST_MARKS) {
        marks[markCount] = v;
      }
      markCount++;
    }

    private void keep(int depth) {
      if (depth > MOST_OPEN) {
        return;
      }
      System.arraycopy(books.balances, 0, keptBalances[depth], 0, MOST_ACCOUNTS);
      keptFees[depth] = books.fees;
    }

    private void undo(int depth) {
      if (depth > MOST_OPEN) {
        return;
      }
      System.arraycopy(keptBalances[depth], 0, books.balances, 0, MOST_ACCOUNTS);
      books.fees = keptFees[depth];
    }
  }

  private static final class Sheet {
    static final int MISSING = -1, BYTES = 0, INTS = 1;
    static final int MOST_ITEMS = 60;

    int sort = MISSING;
    int size;
    final int[] items = new int[MOST_ITEMS];

    boolean isMissing() {
      return sort == MISSING;
    }

    boolean hasPlace(int i) {
      return i >= 0 && i < size;
    }

    boolean hasStretch(int from, int n) {
      return n >= 0 && from >= 0 && from <= size && n <= size - from;
    }

    void become(int newSort, int newSize) {
      sort = newSort;
      size = newSize;
      for (int i = 0; i < MOST_ITEMS; i++) {
        items[i] = 0;
      }
    }

    void write(int i, int v) {
      items[i] = sort == BYTES ? v & 255 : v;
    }

    void takeOver(int[] numbers, int n) {
      become(INTS, n);
      System.arraycopy(numbers, 0, items, 0, n);
    }

    /** The first place where the SHEET and the numbers differ, be it by their ends; NONE. */
    int firstUnlike(int[] numbers, int n) {
      int both = Math.min(size, n);
      for (int i = 0; i < both; i++) {
        if (items[i] != numbers[i]) {
          return i;
        }
      }
      return size == n ? NONE : both;
    }
  }
}
