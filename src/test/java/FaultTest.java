import java.util.ArrayDeque;
import java.util.Deque;
import java.util.Random;

/**
 * FAULT by its own words: the first byte with which no PROGRAM goes on. A text goes on if some ending makes it a
 * PROGRAM: what an ITEM still lacks (figures at most), then all brackets that are open.
 */
public final class FaultTest {
  private static final Checks CHECKS = new Checks("FaultTest");
  private static final String OPENING = "([<{", CLOSING = ")]>}";
  private static final String SIGNS = "([<{)]>}pnaxbc0189 ";
  private static final String[] LACKING = {"", "1", "11", "111"};
  private static final String[] BEGINS = {"[[[[[[[", "[[[[[[{1", "{1[[[<<(0", "(0{1p01", "p0", "p011", "{9(7n", "{1{1[b"};

  /** Whether a text is a PROGRAM, and nothing of where it is not. */
  private static final class Grammar {
    private final String text;
    private int at = 0;

    Grammar(String text) {
      this.text = text;
    }

    static boolean isProgram(String text) {
      Grammar grammar = new Grammar(text);
      return !text.isEmpty() && grammar.areItems(0, 0) && grammar.at == text.length();
    }

    private boolean areItems(int open, int loops) {
      while (at < text.length() && CLOSING.indexOf(text.charAt(at)) < 0) {
        if (!isItem(open, loops)) {
          return false;
        }
      }
      return true;
    }

    private boolean isItem(int open, int loops) {
      char sign = text.charAt(at++);
      return switch (sign) {
        case '(' -> isFigure('0', '7') && isInside(sign, open, loops);
        case '[', '<' -> isInside(sign, open, loops);
        case '{' -> isFigure('1', '9') && isInside(sign, open, loops + 1);
        case 'p' -> isFigure('0', '7') && isFigure('0', '7') && isNumber();
        case 'n', 'a' -> isFigure('0', '7');
        case 'b', 'c' -> loops > 0;
        default -> sign == 'x';
      };
    }

    private boolean isInside(char opening, int open, int loops) {
      return open < 8 && areItems(open + 1, loops) && at < text.length()
          && text.charAt(at++) == CLOSING.charAt(OPENING.indexOf(opening));
    }

    private boolean isNumber() {
      int figures = 0;
      while (figures < 4 && isFigure('0', '9')) {
        figures++;
      }
      return figures > 0;
    }

    private boolean isFigure(char least, char most) {
      boolean is = at < text.length() && text.charAt(at) >= least && text.charAt(at) <= most;
      at += is ? 1 : 0;
      return is;
    }
  }

  public static void main(String[] args) {
    allBehind("", 4);
    for (String begin : BEGINS) {
      allBehind(begin, 3);
    }
    Random random = new Random(11);
    for (int i = 0; i < 20000; i++) {
      check(anyText(random));
    }
    CHECKS.end();
  }

  private static void allBehind(String begin, int more) {
    check(begin);
    for (int i = 0; more > 0 && i < SIGNS.length(); i++) {
      allBehind(begin + SIGNS.charAt(i), more - 1);
    }
  }

  /** Up to 80 bytes that mostly go on, so that faults stand far behind, too. */
  private static String anyText(Random random) {
    StringBuilder text = new StringBuilder();
    int size = 1 + random.nextInt(80);
    boolean wild = false;
    while (text.length() < size) {
      text.append(SIGNS.charAt(random.nextInt(SIGNS.length())));
      wild = wild || random.nextInt(200) == 0;
      for (int tries = 0; tries < 40 && !wild && !goesOn(text.toString()); tries++) {
        text.setCharAt(text.length() - 1, SIGNS.charAt(random.nextInt(SIGNS.length())));
      }
    }
    return text.toString();
  }

  private static void check(String text) {
    ClearingGates x = new ClearingGates();
    Checks.feed(x, text);
    CHECKS.due("program of " + text, x.program(), due(text));
    CHECKS.due("the tape behind " + text, x.count(7), 0);
  }

  private static int due(String text) {
    for (int place = 0; place < text.length(); place++) {
      if (!goesOn(text.substring(0, place + 1))) {
        return -100 - place;
      }
    }
    return Grammar.isProgram(text) ? 0 : -100 - text.length();
  }

  private static boolean goesOn(String text) {
    String closings = closingsOf(text);
    for (String lacking : LACKING) {
      if (Grammar.isProgram(text + lacking + closings)) {
        return true;
      }
    }
    return false;
  }

  private static String closingsOf(String text) {
    Deque<Character> open = new ArrayDeque<>();
    for (int i = 0; i < text.length(); i++) {
      int opening = OPENING.indexOf(text.charAt(i));
      if (opening >= 0) {
        open.push(CLOSING.charAt(opening));
      } else if (CLOSING.indexOf(text.charAt(i)) >= 0 && !open.isEmpty()) {
        open.pop();
      }
    }
    StringBuilder closings = new StringBuilder();
    for (char closing : open) {
      closings.append(closing);
    }
    return closings.toString();
  }
}
