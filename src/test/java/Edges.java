/**
 * Checks of the edges that the document names. Ahead of its checks a test quotes the words that they stand for, so that
 * it can be seen which words have a test of their own; at the end no words of the terms and promises may be without.
 */
final class Edges {
  static final int BAD = ClearingGates.BAD, NONE = ClearingGates.NONE;
  static final int STATE = ClearingGates.STATE, FULL = ClearingGates.FULL;
  static final long NO = ClearingGates.NO;
  static final int LEAST = Integer.MIN_VALUE, GREATEST = Integer.MAX_VALUE;

  private final Document document = new Document();
  private final Checks checks = new Checks("EdgesTest");
  private String at = "";
  private int answers = 1;

  void terms(String words) {
    begin("Terms", words);
  }

  void promise(int number, String words) {
    begin("Promise " + number, words);
  }

  void begin(String section, String words) {
    endOfWords();
    at = section + ", '" + words + "'";
    checks.due(at + " stands in the document, once", document.quotes(section, words));
    answers = 0;
  }

  /** Words that name no edge: they are told here so that none is left out unseen. */
  void plain(String section, String words) {
    begin(section, words);
    answers = 1;
  }

  void due(String call, long got, long want) {
    answers++;
    checks.due(at + ": " + call, got, want);
  }

  void due(String call, boolean got) {
    due(call, got ? 1 : 0, 1);
  }

  void dueTrace(String call, ClearingGates x, String want) {
    answers++;
    checks.dueTrace(at + ": " + call, x, want);
  }

  private void endOfWords() {
    checks.due(at + " has an answer of its own", answers > 0);
  }

  void end() {
    endOfWords();
    for (String rest : document.unquoted()) {
      checks.due("no test quotes these words: " + rest, false);
    }
    checks.end();
  }
}
