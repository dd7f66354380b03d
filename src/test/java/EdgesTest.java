/** Each sentence of the document that names an edge has a test of its own, which quotes it. */
public final class EdgesTest {
  private static final String[] HEADS = {
      "Ahead of the calls `account`, `set`, `gate`, `told`, `of`, `count`, `sum`, `taken` the interface says: ---- accounts.",
      "Ahead of the calls `feed`, `program`, `run`, `trace` the interface says: ---- programs.",
      "Ahead of the calls `would`, `needed`, `hinges` the interface says: ---- in thought.",
      "Ahead of the calls `owe`, `owed`, `net` the interface says: ---- debts.",
      "Ahead of the calls `tells`, `film`, `image`, `back` the interface says: ---- what was told.",
      "Ahead of the calls `sheet`, `put`, `copy`, `load` the interface says: ---- the host."};

  private EdgesTest() {
  }

  public static void main(String[] args) {
    Edges edges = new Edges();
    lastCall(edges);
    new AccountEdges(edges).all();
    new ProgramEdges(edges).all();
    new RunEdges(edges).all();
    new ThoughtEdges(edges).all();
    new DebtEdges(edges).all();
    new SheetEdges(edges).all();
    new RefusalEdges(edges).all();
    for (String head : HEADS) {
      edges.plain("Terms", head);
    }
    edges.end();
  }

  /** The 512th call still has its answer, though the dearest ones and the greatest counts were ahead of it. */
  private static void lastCall(Edges e) {
    e.begin("What it is", "An object is used for at most 512 calls after it has been made;");
    ClearingGates x = new ClearingGates();
    x.account(4, 1000000000);
    x.account(0, 0);
    x.feed(5, '(', '0', '(', '1', '{');
    x.feed(5, '8', '{', '6', '{', '9');
    x.feed(5, 'a', '1', '}', '}', 'p');
    x.feed(5, '0', '1', '9', '9', '9');
    x.feed(4, '9', '}', ')', ')', 0);
    e.due("a program", x.program(), 0);
    int runs = 512 - 8 - 5;
    for (int run = 0; run < runs; run++) {
      e.due("run " + run, x.run(0), 0);
    }
    e.due("bells", x.count(3), runs * 864);
    e.due("entries", x.told(1, 3), runs);
    e.due("fees", x.sum(0), runs * 8 * 1000);
    e.due("paid", x.of(1, 0), runs * 8 * 9999);
    e.due("the 512th call", x.needed(0, 0), 131072);
  }
}
