import java.util.ArrayList;
import java.util.Arrays;
import java.util.List;

/**
 * The bank once more, written in another way (trees, exceptions, fresh copies, every way tried anew), to compare
 * answers with. It knows no outer limits of Java: its tests hand it numbers as they come.
 */
final class Model {
  private static final long NO = Long.MIN_VALUE;

  /** One KIND each, as the document tells them: under another one. */
  private static class Account {
    int kind;
    long balance;
    long limit;
    boolean gate = true;
    int entries;
    int leavings;
    int agains;

    Account as() {
      Account a = new Account();
      a.kind = kind;
      a.balance = balance;
      a.limit = limit;
      a.gate = gate;
      a.entries = entries;
      a.leavings = leavings;
      a.agains = agains;
      return a;
    }
  }

  private static final int[] ABOVE = {-1, 0, 0, 2, 1};

  private static long fee(int kind, long v) {
    long above = ABOVE[kind] < 0 ? 0 : fee(ABOVE[kind], v);
    return kind == 1 ? above + 1 : kind == 4 ? above + v / 10 : above;
  }

  private static long floor(int kind, long limit) {
    long above = ABOVE[kind] < 0 ? 0 : floor(ABOVE[kind], limit);
    return switch (kind) {
      case 1 -> above + 10;
      case 2, 3 -> above - limit;
      case 4 -> above - 10;
      default -> above;
    };
  }

  private static final class Failure extends RuntimeException {
    private static final long serialVersionUID = 1;
    final int number;

    Failure(int number) {
      super(null, null, false, false);
      this.number = number;
    }
  }

  private static final class Jump extends RuntimeException {
    private static final long serialVersionUID = 1;
    final boolean on;

    Jump(boolean on) {
      super(null, null, false, false);
      this.on = on;
    }
  }

  private static final class Fault extends RuntimeException {
    private static final long serialVersionUID = 1;
    final int place;

    Fault(int place) {
      super(null, null, false, false);
      this.place = place;
    }
  }

  private static final class Node {
    char what;
    int a;
    int b;
    int v;
    List<Node> inside = new ArrayList<>();
  }

  private static final class Parser {
    final String text;
    int at;

    Parser(String text) {
      this.text = text;
    }

    char next() {
      if (at >= text.length()) {
        throw new Fault(text.length());
      }
      return text.charAt(at);
    }

    int figure(int least, int most) {
      int v = next() - '0';
      if (v < least || v > most) {
        throw new Fault(at);
      }
      at++;
      return v;
    }

    List<Node> whole() {
      List<Node> all = new ArrayList<>();
      do {
        all.add(item(0, false));
      } while (at < text.length());
      return all;
    }

    Node item(int depth, boolean loop) {
      Node node = new Node();
      node.what = next();
      if ("([<{".indexOf(node.what) >= 0) {
        if (depth == 8) {
          throw new Fault(at);
        }
        at++;
        if (node.what == '(') {
          node.a = figure(0, 7);
        } else if (node.what == '{') {
          node.a = figure(1, 9);
        }
        char end = ")]>}".charAt("([<{".indexOf(node.what));
        while (next() != end) {
          node.inside.add(item(depth + 1, loop || node.what == '{'));
        }
        at++;
      } else if ("pnaxbc".indexOf(node.what) >= 0 && (loop || "bc".indexOf(node.what) < 0)) {
        at++;
        simple(node);
      } else {
        throw new Fault(at);
      }
      return node;
    }

    void simple(Node node) {
      if (node.what == 'n' || node.what == 'a') {
        node.a = figure(0, 7);
      } else if (node.what == 'p') {
        node.a = figure(0, 7);
        node.b = figure(0, 7);
        node.v = figure(0, 9);
        for (int more = 0; more < 3 && at < text.length() && Character.isDigit(text.charAt(at)); more++) {
          node.v = node.v * 10 + figure(0, 9);
        }
      }
    }
  }

  /** All that an image keeps, and what a run changes. */
  private static final class World {
    List<Account> accounts = new ArrayList<>();
    List<List<Node>> programs = new ArrayList<>();
    long[][] owed = new long[8][8];
    long fees;
    int missed;
    int bells;
    int refused;
    int caught;

    World as() {
      World w = new World();
      for (Account a : accounts) {
        w.accounts.add(a.as());
      }
      w.programs.addAll(programs);
      for (int i = 0; i < 8; i++) {
        w.owed[i] = owed[i].clone();
      }
      w.fees = fees;
      w.missed = missed;
      w.bells = bells;
      w.refused = refused;
      w.caught = caught;
      return w;
    }

    Account at(int i) {
      return i >= 0 && i < accounts.size() ? accounts.get(i) : null;
    }
  }

  private static final class Machine {
    final World w;
    final List<Integer> marks = new ArrayList<>();
    final List<Integer> held = new ArrayList<>();
    int begun;

    Machine(World w) {
      this.w = w;
    }

    int outcome(List<Node> program) {
      World before = w.as();
      try {
        all(program);
        return 0;
      } catch (Failure f) {
        undo(before);
        return f.number;
      }
    }

    void undo(World before) {
      for (int i = 0; i < w.accounts.size(); i++) {
        w.accounts.get(i).balance = before.accounts.get(i).balance;
      }
      w.fees = before.fees;
    }

    void all(List<Node> nodes) {
      for (Node node : nodes) {
        if (++begun == 501) {
          throw new Failure(5);
        }
        switch (node.what) {
          case '(' -> block(node);
          case '[', '<' -> attempt(node);
          case '{' -> loop(node);
          case 'p' -> pay(node);
          case 'x' -> throw new Failure(4);
          case 'b' -> throw new Jump(false);
          case 'c' -> throw new Jump(true);
          default -> bell(node);
        }
      }
    }

    void block(Node node) {
      Account a = w.at(node.a);
      if (a == null || !a.gate) {
        w.missed++;
        return;
      }
      boolean again = held.contains(node.a);
      if (!again) {
        for (int other : held) {
          if (other > node.a) {
            throw new Failure(3);
          }
        }
      }
      a.entries++;
      if (again) {
        a.agains++;
      }
      marks.add(10 + node.a);
      held.add(node.a);
      try {
        all(node.inside);
      } finally {
        held.remove(held.size() - 1);
        a.leavings++;
        marks.add(20 + node.a);
      }
    }

    void attempt(Node node) {
      World before = w.as();
      try {
        all(node.inside);
      } catch (Failure f) {
        if (f.number == 5 || node.what == '<' && f.number > 2) {
          throw f;
        }
        undo(before);
        w.caught++;
        marks.add(50 + f.number);
      }
    }

    void loop(Node node) {
      for (int time = 0; time < node.a; time++) {
        try {
          all(node.inside);
        } catch (Jump jump) {
          if (!jump.on) {
            return;
          }
        }
      }
    }

    void pay(Node node) {
      Account from = w.at(node.a);
      Account to = w.at(node.b);
      if (from == null || to == null || from == to || !held.contains(node.a) || !held.contains(node.b)) {
        throw new Failure(2);
      }
      long fee = fee(from.kind, node.v);
      if (from.balance - node.v - fee < floor(from.kind, from.limit) || to.balance + node.v > 1000000000) {
        throw new Failure(1);
      }
      from.balance -= node.v + fee;
      to.balance += node.v;
      w.fees += fee;
      marks.add(100 + 10 * node.a + node.b);
    }

    void bell(Node node) {
      Account a = w.at(node.a);
      if (a == null || !a.gate) {
        w.missed++;
      } else if (held.contains(node.a)) {
        w.bells += node.what == 'a' ? 2 : 1;
        marks.add(30 + node.a);
      } else {
        w.refused++;
        marks.add(40 + node.a);
      }
    }
  }

  private World w = new World();
  private World image = null;
  private String tape = "";
  private List<Integer> trace = List.of();
  private final int[][] rows = new int[4][];
  private final int[] sorts = {-1, -1, -1, -1};

  int account(int kind, int balance) {
    if (kind < 0 || kind > 4 || balance < 0 || balance > 1000000000) {
      return -2;
    }
    if (w.accounts.size() == 8) {
      return -4;
    }
    Account a = new Account();
    a.kind = kind;
    a.balance = balance;
    w.accounts.add(a);
    return w.accounts.size() - 1;
  }

  long set(int account, int what, int v) {
    Account a = w.at(account);
    if (a == null || what < 0 || what > 1 || v < 0 || v > (what == 0 ? 1000000000 : 9999)) {
      return NO;
    }
    long was = what == 0 ? a.balance : a.limit;
    if (what == 0) {
      a.balance = v;
    } else {
      a.limit = v;
    }
    return was;
  }

  int gate(int account, boolean is) {
    Account a = w.at(account);
    if (a == null) {
      return -2;
    }
    boolean was = a.gate;
    a.gate = is;
    return was ? 1 : 0;
  }

  int told(int account, int what) {
    Account a = w.at(account);
    if (a == null || what < 0 || what > 6) {
      return -2;
    }
    long[] all = {a.kind, a.limit, a.gate ? 1 : 0, a.entries, a.leavings, a.agains, fee(a.kind, 100)};
    return (int) all[what];
  }

  long of(int account, int what) {
    Account a = w.at(account);
    if (a == null || what < 0 || what > 2) {
      return NO;
    }
    long position = 0;
    for (int i = 0; i < 8; i++) {
      position += w.owed[i][account] - w.owed[account][i];
    }
    return new long[] {a.balance, floor(a.kind, a.limit), position}[what];
  }

  int count(int what) {
    if (what < 0 || what > 7) {
      return -2;
    }
    return new int[] {w.accounts.size(), w.programs.size(), w.missed, w.bells, w.refused, w.caught,
        Math.min(60, trace.size()), tape.length()}[what];
  }

  long sum(int what) {
    if (what < 0 || what > 2) {
      return NO;
    }
    long all = w.fees;
    for (Account a : w.accounts) {
      all += a.balance;
    }
    long debts = 0;
    for (long[] row : w.owed) {
      debts += Arrays.stream(row).sum();
    }
    return new long[] {w.fees, all, debts}[what];
  }

  int taken(int account, int k) {
    Account a = w.at(account);
    if (a == null || k < 0 || k > 4) {
      return -2;
    }
    for (int kind = a.kind; kind >= 0; kind = ABOVE[kind]) {
      if (kind == k) {
        return (int) a.limit;
      }
    }
    return -13;
  }

  int feed(int n, int... bytes) {
    if (n < 1 || n > 5) {
      return -2;
    }
    for (int v : bytes) {
      if (v < 0 || v > 255) {
        return -2;
      }
    }
    if (tape.length() + n > 80) {
      return -4;
    }
    for (int i = 0; i < n; i++) {
      tape += (char) bytes[i];
    }
    return tape.length();
  }

  int program() {
    if (w.programs.size() == 4) {
      return -4;
    }
    String text = tape;
    tape = "";
    try {
      w.programs.add(new Parser(text).whole());
    } catch (Fault f) {
      return -100 - f.place;
    }
    return w.programs.size() - 1;
  }

  private boolean isProgram(int program) {
    return program >= 0 && program < w.programs.size();
  }

  int run(int program) {
    if (!isProgram(program)) {
      return -2;
    }
    Machine machine = new Machine(w);
    int outcome = machine.outcome(w.programs.get(program));
    trace = machine.marks;
    return outcome;
  }

  int trace(int i) {
    return i < 0 || i >= count(6) ? -12 : trace.get(i);
  }

  private static int entries(World w) {
    return w.accounts.stream().mapToInt(a -> a.entries).sum();
  }

  long would(int program, int what) {
    if (!isProgram(program) || what < 0 || what > 3 && (what < 10 || what - 10 >= w.accounts.size())) {
      return NO;
    }
    Machine machine = new Machine(w.as());
    int outcome = machine.outcome(w.programs.get(program));
    if (what >= 10) {
      return machine.w.accounts.get(what - 10).balance;
    }
    return new long[] {outcome, machine.w.fees, machine.marks.size(), entries(machine.w) - entries(w)}[what];
  }

  int needed(int program, int account) {
    if (!isProgram(program) || w.at(account) == null) {
      return -2;
    }
    for (long balance = 0; balance <= 1048576; balance = balance == 0 ? 1 : 2 * balance) {
      World thought = w.as();
      thought.at(account).balance = balance;
      if (new Machine(thought).outcome(w.programs.get(program)) == 0) {
        return (int) balance;
      }
    }
    return -1;
  }

  int hinges(int program) {
    if (!isProgram(program)) {
      return -2;
    }
    int bits = 0;
    for (int i = 0; i < w.accounts.size(); i++) {
      World thought = w.as();
      thought.at(i).gate ^= true;
      if (new Machine(thought).outcome(w.programs.get(program)) != would(program, 0)) {
        bits += 1 << i;
      }
    }
    return bits;
  }

  private boolean isPair(int from, int to) {
    return w.at(from) != null && w.at(to) != null && from != to;
  }

  int owe(int from, int to, int v) {
    if (!isPair(from, to) || v < 0 || v > 99999) {
      return -2;
    }
    long was = w.owed[from][to];
    w.owed[from][to] = v;
    return (int) was;
  }

  int owed(int from, int to) {
    return isPair(from, to) ? (int) w.owed[from][to] : -2;
  }

  /** Tries every way, as the document tells it, also by accounts that were stepped back from. */
  private boolean ring(List<Integer> way) {
    int last = way.get(way.size() - 1);
    if (way.size() > 1 && w.owed[last][way.get(0)] > 0) {
      return true;
    }
    for (int next = 0; next < w.accounts.size(); next++) {
      if (w.owed[last][next] > 0 && !way.contains(next)) {
        way.add(next);
        if (ring(way)) {
          return true;
        }
        way.remove(way.size() - 1);
      }
    }
    return false;
  }

  private List<Integer> firstRing() {
    for (int first = 0; first < w.accounts.size(); first++) {
      List<Integer> way = new ArrayList<>(List.of(first));
      if (ring(way)) {
        return way;
      }
    }
    return null;
  }

  int net() {
    for (Account a : w.accounts) {
      if (!a.gate) {
        return -3;
      }
    }
    for (Account a : w.accounts) {
      a.entries++;
      a.leavings++;
    }
    int cut = 0;
    for (List<Integer> way = firstRing(); way != null; way = firstRing()) {
      cut++;
      long least = Long.MAX_VALUE;
      for (int i = 0; i < way.size(); i++) {
        least = Math.min(least, w.owed[way.get(i)][way.get((i + 1) % way.size())]);
      }
      for (int i = 0; i < way.size(); i++) {
        w.owed[way.get(i)][way.get((i + 1) % way.size())] -= least;
      }
    }
    return cut;
  }

  private List<Integer> thoughtMarks(World thought, int program) {
    Machine machine = new Machine(thought);
    machine.outcome(w.programs.get(program));
    return machine.marks.subList(0, Math.min(60, machine.marks.size()));
  }

  private static int first(int[] row, List<Integer> marks) {
    for (int i = 0; i < row.length; i++) {
      if (i >= marks.size() || marks.get(i) != row[i]) {
        return i;
      }
    }
    return row.length < marks.size() ? row.length : -1;
  }

  private static boolean isSheet(int sheet) {
    return sheet >= 0 && sheet <= 3;
  }

  int tells(int sheet, int program, int account, int what) {
    if (!isSheet(sheet) || !isProgram(program) || what < 0 || what > 1 || what == 1 && w.at(account) == null) {
      return -2;
    }
    if (rows[sheet] == null) {
      return -11;
    }
    if (what == 0) {
      return first(rows[sheet], thoughtMarks(w.as(), program));
    }
    int bits = 0;
    for (int kind = 0; kind < 5; kind++) {
      World thought = w.as();
      thought.at(account).kind = kind;
      if (first(rows[sheet], thoughtMarks(thought, program)) == -1) {
        bits += 1 << kind;
      }
    }
    return bits;
  }

  int film(int sheet, int program) {
    if (!isSheet(sheet) || !isProgram(program)) {
      return -2;
    }
    rows[sheet] = thoughtMarks(w.as(), program).stream().mapToInt(i -> i).toArray();
    sorts[sheet] = 1;
    return rows[sheet].length;
  }

  int image() {
    image = w.as();
    return w.accounts.size();
  }

  int back() {
    if (image == null) {
      return -3;
    }
    w = image.as();
    return w.accounts.size();
  }

  int sheet(int sheet, int sort, int n) {
    if (!isSheet(sheet) || sort < -1 || sort > 1 || sort >= 0 && n > 60) {
      return -2;
    }
    if (sort >= 0 && n < 0) {
      return -14;
    }
    sorts[sheet] = sort;
    rows[sheet] = sort < 0 ? null : new int[n];
    return 1;
  }

  int put(int sheet, int i, int v) {
    if (!isSheet(sheet)) {
      return -2;
    }
    if (rows[sheet] == null) {
      return -11;
    }
    if (i < 0 || i >= rows[sheet].length) {
      return -12;
    }
    rows[sheet][i] = sorts[sheet] == 0 ? Math.floorMod(v, 256) : v;
    return 1;
  }

  int copy(int sheet, int i, int other, int j, int n) {
    if (!isSheet(sheet) || !isSheet(other)) {
      return -2;
    }
    if (rows[sheet] == null || rows[other] == null) {
      return -11;
    }
    if (sorts[sheet] != sorts[other]) {
      return -13;
    }
    if (i < 0 || j < 0 || n < 0 || (long) i + n > rows[sheet].length || (long) j + n > rows[other].length) {
      return -12;
    }
    int[] were = Arrays.copyOfRange(rows[sheet], i, i + n);
    for (int k = 0; k < n; k++) {
      rows[other][j + k] = were[k];
    }
    return n;
  }

  int load(int sheet, int sort, int from, int n) {
    if (!isSheet(sheet) || sort < 0 || sort > 1 || n < 0 || n > 20) {
      return -2;
    }
    if (rows[sheet] == null) {
      return -11;
    }
    if (sorts[sheet] != sort) {
      return -13;
    }
    int came = 0;
    long place = from;
    for (int debt = 0; debt < n; debt++, place += 3) {
      if (place < 0 || place + 2 >= rows[sheet].length) {
        return -12;
      }
      int p = (int) place;
      came += owe(rows[sheet][p], rows[sheet][p + 1], rows[sheet][p + 2]) == -2 ? 0 : 1;
    }
    return came;
  }
}
