import java.io.IOException;
import java.nio.file.Files;
import java.nio.file.Path;
import java.util.ArrayList;
import java.util.LinkedHashMap;
import java.util.List;
import java.util.Map;

/** The document's sections, and which of their words tests have quoted. */
final class Document {
  private static final Path PLACE = Path.of("../shared/DOC.md");

  private final Map<String, String> texts = new LinkedHashMap<>();
  private final Map<String, boolean[]> quoted = new LinkedHashMap<>();

  Document() {
    String section = "";
    for (String line : lines()) {
      if (line.startsWith("## ")) {
        section = line.substring(3).replaceFirst(":.*", "");
      } else if (!line.startsWith("```")) {
        texts.merge(section, bare(line), (all, more) -> (all + " " + more).strip());
      }
    }
    for (Map.Entry<String, String> entry : texts.entrySet()) {
      quoted.put(entry.getKey(), new boolean[entry.getValue().length()]);
    }
  }

  private static List<String> lines() {
    try {
      return Files.readAllLines(PLACE);
    } catch (IOException e) {
      throw new IllegalStateException("no document at " + PLACE, e);
    }
  }

  /** A line without what numbers it, and without the head of a call, which FaceTest looks at. */
  private static String bare(String line) {
    return line.replaceFirst("^==== \\d ", "").replaceFirst("^`[^`]*\\)`: ", "").strip();
  }

  /** Whether the words stand in that section, just once. */
  boolean quotes(String section, String words) {
    String text = texts.getOrDefault(section, "");
    int at = text.indexOf(words);
    if (at < 0 || text.indexOf(words, at + 1) >= 0) {
      return false;
    }
    for (int i = 0; i < words.length(); i++) {
      quoted.get(section)[at + i] = true;
    }
    return true;
  }

  /** Words of the terms and promises that no test has quoted. */
  List<String> unquoted() {
    List<String> rests = new ArrayList<>();
    for (Map.Entry<String, String> entry : texts.entrySet()) {
      String section = entry.getKey();
      if (section.equals("Terms") || section.startsWith("Promise ")) {
        addRests(rests, section, entry.getValue());
      }
    }
    return rests;
  }

  private void addRests(List<String> rests, String section, String text) {
    boolean[] marked = quoted.get(section);
    StringBuilder rest = new StringBuilder();
    for (int i = 0; i <= text.length(); i++) {
      if (i < text.length() && !marked[i]) {
        rest.append(text.charAt(i));
      } else {
        if (!rest.toString().isBlank()) {
          rests.add(section + ": " + rest.toString().strip());
        }
        rest.setLength(0);
      }
    }
  }
}
