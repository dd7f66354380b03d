import java.io.File;
import java.io.IOException;
import java.lang.reflect.Method;
import java.lang.reflect.Modifier;
import java.nio.file.Files;
import java.nio.file.Path;
import java.util.ArrayList;
import java.util.List;

/** README.md: its example stands here, too, and answers as told; it names each call and each test. */
public final class ReadmeTest {
  private static final Checks CHECKS = new Checks("ReadmeTest");
  private static final Path README = Path.of("README.md");
  private static final String TESTS = "src/test/java";

  public static void main(String[] args) throws IOException {
    example();
    List<String> page = Files.readAllLines(README);
    exampleStandsHere(page);
    for (Method method : ClearingGates.class.getDeclaredMethods()) {
      if (Modifier.isPublic(method.getModifiers())) {
        CHECKS.due("a row for " + method, rowsFor(page, "| `" + method.getName() + "("), 1);
        CHECKS.due("its parameters", parametersOf(page, method.getName()), method.getParameterCount());
      }
    }
    for (File file : new File(TESTS).listFiles()) {
      if (file.getName().endsWith("Test.java")) {
        CHECKS.due("a row for " + file, rowsFor(page, "| " + file.getName().replace(".java", " |")), 1);
      }
    }
    CHECKS.end();
  }

  private static void example() {
    ClearingGates bank = new ClearingGates();
    int from = bank.account(0, 100);            // 0, a PLAIN account with 100
    int to = bank.account(1, 50);               // 1, a SAVER with 50
    bank.feed(5, '(', '0', '(', '1', 'p');      // the program (0(1p0130)) comes byte by byte
    bank.feed(5, '0', '1', '3', '0', ')');
    bank.feed(1, ')', 0, 0, 0, 0);
    int program = bank.program();               // 0, its number
    long outcome = bank.would(program, 0);      // 0, so it would end well
    int needed = bank.needed(program, from);    // 32, the least of 0, 1, 2, 4, 8, .. that is enough
    int gates = bank.hinges(program);           // 0: without a gate its block is left out, which ends well, too
    int ended = bank.run(program);              // 0, now truly
    long left = bank.of(from, 0);               // 70
    int mark = bank.trace(2);                   // 101, a payment from 0 to 1
    int refused = bank.run(7);                  // -2, BAD: there is no such program
    long[] got = {from, to, program, outcome, needed, gates, ended, left, mark, refused};
    long[] due = {0, 1, 0, 0, 32, 0, 0, 70, 101, -2};
    for (int i = 0; i < due.length; i++) {
      CHECKS.due("the example's answer " + i, got[i], due[i]);
    }
  }

  private static void exampleStandsHere(List<String> page) throws IOException {
    List<String> here = new ArrayList<>();
    for (String line : Files.readAllLines(Path.of(TESTS, "ReadmeTest.java"))) {
      here.add(line.strip());
    }
    int begin = page.indexOf("```java") + 1;
    int end = page.lastIndexOf("```");
    CHECKS.due("one example", begin > 0 && end > begin);
    int at = here.indexOf(page.get(begin));
    for (int i = begin; i < end; i++) {
      CHECKS.due("here, too: " + page.get(i), at >= 0 && here.get(at + i - begin).equals(page.get(i)));
    }
  }

  private static int rowsFor(List<String> page, String begin) {
    int rows = 0;
    for (String line : page) {
      rows += line.startsWith(begin) ? 1 : 0;
    }
    return rows;
  }

  private static int parametersOf(List<String> page, String call) {
    for (String line : page) {
      if (line.startsWith("| `" + call + "(")) {
        String inside = line.substring(line.indexOf('(') + 1, line.indexOf(')'));
        return inside.isEmpty() ? 0 : inside.split(",").length;
      }
    }
    return -1;
  }
}
