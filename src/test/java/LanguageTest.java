import java.io.IOException;
import java.nio.file.Files;
import java.nio.file.Path;
import java.util.List;
import java.util.regex.Matcher;
import java.util.regex.Pattern;

/** What can be seen of LANGUAGE.md's rules by reading the source's lines. */
public final class LanguageTest {
  private static final Checks CHECKS = new Checks("LanguageTest");
  private static final Path SOURCE = Path.of("src/main/java/ClearingGates.java");
  private static final String[] REFUSED = {"\\bthrow\\b", "\\bthrows\\b", "\\btry\\b", "\\bcatch\\b", "\\bfinally\\b",
      "\\bsynchronized\\b", "\\bassert\\b", "\\bpackage\\b", "\\bimport java\\.(?!util\\.(List|ArrayList|Arrays);)",
      "->", "::", "Exact\\b", "\\bprotected\\b", "\\bSystem\\.(?!arraycopy\\b)", "\\bThread\\b", "\\bObject\\b",
      "\\bhashCode\\b", "\\btoString\\b", "\\bHashMap\\b", "\\bvolatile\\b", "\\bnative\\b", "^\\s*static \\{"};
  private static final Pattern METHOD = Pattern.compile("^ {2,4}[\\w\\[\\]<> ]+\\((.*)\\) \\{$");
  private static final Pattern CLASS = Pattern.compile("\\b(class|interface|enum|record) [A-Z]\\w*.*\\{$");
  private static final Pattern FIELD = Pattern.compile("^ {2,4}(private |final |public )*[\\w\\[\\]]+ \\w+( = .*)?;$");

  public static void main(String[] args) throws IOException {
    List<String> lines = Files.readAllLines(SOURCE);
    int classes = 0;
    int fields = 0;
    int begin = -1;
    String end = "";
    for (int i = 0; i < lines.size(); i++) {
      String line = lines.get(i);
      String code = withoutComment(line);
      words(i + 1, code);
      CHECKS.due("line " + (i + 1) + " has signs 1 to 127 alone", line.chars().allMatch(c -> c > 0 && c < 128));
      if (CLASS.matcher(code).find()) {
        classes++;
        fields = 0;
      }
      if (begin < 0 && FIELD.matcher(code).matches() && !code.contains("static") && !code.contains("return")) {
        fields++;
        CHECKS.due("line " + (i + 1) + ": some twenty fields a class", fields <= 20);
      }
      Matcher method = METHOD.matcher(code);
      if (begin < 0 && method.matches() && !CLASS.matcher(code).find()) {
        begin = i;
        end = line.substring(0, line.length() - line.stripLeading().length()) + "}";
        CHECKS.due("line " + (i + 1) + ": seven parameters at most", method.group(1).split(",").length <= 7);
      }
      if (begin >= 0 && line.equals(end)) {
        CHECKS.due("line " + (begin + 1) + ": sixty lines a method", i - begin <= 60);
        begin = -1;
      }
    }
    CHECKS.due("twelve classes at most: " + classes, classes >= 1 && classes <= 12);
    CHECKS.end();
  }

  private static String withoutComment(String line) {
    String bare = line.strip();
    if (bare.startsWith("*") || bare.startsWith("/*")) {
      return "";
    }
    int at = line.indexOf("//");
    return at < 0 ? line : line.substring(0, at);
  }

  private static void words(int number, String code) {
    for (String word : REFUSED) {
      CHECKS.due("line " + number + " without " + word, !Pattern.compile(word).matcher(code).find());
    }
  }
}
