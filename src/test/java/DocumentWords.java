import java.util.ArrayList;
import java.util.LinkedHashMap;
import java.util.List;
import java.util.Map;

/** The sentences of the document's "Terms" and promises, and which of them a test is about. */
final class DocumentWords {
  private final Map<String, List<String>> open = new LinkedHashMap<>();
  private final Map<String, String> whole = new LinkedHashMap<>();

  DocumentWords(String document) {
    String told = document.substring(document.indexOf("## Terms"), document.indexOf("## Not "));
    for (String section : told.split("(?m)^## ")) {
      if (!section.isBlank()) {
        addSection(section);
      }
    }
  }

  private void addSection(String section) {
    String heading = section.substring(0, section.indexOf('\n')).replaceAll(":.*", "");
    List<String> sentences = new ArrayList<>();
    for (String part : section.substring(section.indexOf('\n')).split("\n\\s*\n|\n(?=- )")) {
      addSentences(sentences, plain(part));
    }
    open.put(heading, sentences);
    whole.put(heading, String.join(" ", sentences));
  }

  private static String plain(String part) {
    String words = part.replace("<p>", "").replaceAll("\\s+", " ").trim();
    return words.replaceAll("^`[^`]*\\([^`]*`: ", "").replaceAll("^- ", "");
  }

  /** A word alone is a heading; "Ahead of the calls" tells of the text, not of calls. */
  private static void addSentences(List<String> sentences, String part) {
    for (String sentence : part.split("(?<=\\.) ")) {
      if (sentence.contains(" ") && !part.startsWith("Ahead of the calls")) {
        sentences.add(sentence);
      }
    }
  }

  /** Whether these words stand in this section; then what they are of is no more uncovered. */
  boolean cover(String section, String words) {
    if (!whole.getOrDefault(section, "").contains(words)) {
      return false;
    }
    open.get(section).removeIf(sentence -> sentence.contains(words));
    return true;
  }

  List<String> uncovered() {
    List<String> sentences = new ArrayList<>();
    open.forEach(
        (section, left) -> left.forEach(sentence -> sentences.add(section + ": " + sentence)));
    return sentences;
  }
}
