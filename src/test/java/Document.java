import java.io.IOException;
import java.nio.file.Files;
import java.nio.file.Path;
import java.util.ArrayList;
import java.util.LinkedHashMap;
import java.util.List;
import java.util.Map;
import java.util.Set;
import java.util.TreeSet;

/** The sentences of ../shared/DOC.md, and which of them tests have been held against. */
final class Document {
  /** The sentences by their section: the name of a promise's call, or "Terms". */
  private final Map<String, List<String>> sections = new LinkedHashMap<>();
  private final Set<String> tested = new TreeSet<>();

  Document() throws IOException {
    String text = Files.readString(Path.of("../shared/DOC.md"))
        .replace("&amp;", "&").replace("&gt;", ">");
    for (String section : text.split("(?m)^## ")) {
      int end = section.indexOf('\n');
      String title = end < 0 ? section : section.substring(0, end);
      String body = end < 0 ? "" : section.substring(end);
      if (title.startsWith("Promise ")) {
        sections.put(title.substring(title.indexOf(": ") + 2), linesOf(body));
      }
      if (title.equals("What it is")) {
        sections.put(title, sentencesOf(body));
      }
      if (title.equals("Terms")) {
        sections.put(title, sentencesOf(body.substring(0, body.indexOf("Ahead of the calls"))));
      }
    }
  }

  /** A promise's sentences stand in lines of their own; the first one is behind the call. */
  private static List<String> linesOf(String body) {
    List<String> lines = new ArrayList<>();
    for (String line : body.strip().split("\n+")) {
      if (line.startsWith("## ") || line.isBlank()) {
        continue;
      }
      String plain = line.startsWith("`") ? line.substring(line.indexOf("`: ") + 3) : line;
      lines.add((plain.startsWith("- ") ? plain.substring(2) : plain).replace("`", "").strip());
    }
    return lines;
  }

  private static List<String> sentencesOf(String body) {
    List<String> sentences = new ArrayList<>();
    // Paragraphs begin with a heading, like "<p>The text.", or with a sentence.
    String text = body.replaceAll("\\s+", " ").replaceAll("<p>([A-Z][a-z]*( [a-z]+)?\\.)?", " ");
    for (String sentence : text.strip().split("(?<=\\.) +")) {
      sentences.add(sentence);
    }
    return sentences;
  }

  /** Notes that a sentence is tested, which is told whole or by how it begins. */
  void test(String section, String sentence) {
    List<String> all = sections.getOrDefault(section, List.of());
    int found = 0;
    for (String one : all) {
      if (one.equals(sentence) || sentence.endsWith("..")
          && one.startsWith(sentence.substring(0, sentence.length() - 2))) {
        tested.add(section + ": " + one);
        found++;
      }
    }
    Check.same("the document says once, of " + section + ": " + sentence, found, 1);
  }

  /** Each sentence of each section has a test. */
  void end() {
    int sentences = 0;
    for (Map.Entry<String, List<String>> section : sections.entrySet()) {
      for (String sentence : section.getValue()) {
        sentences++;
        String whole = section.getKey() + ": " + sentence;
        Check.same("there is a test of " + whole, tested.contains(whole), true);
      }
    }
    Check.same("there are sentences", sentences > 300, true);
  }

  /** The exceptions of a call, as they are documented, one for each sentence. */
  List<String> exceptionsOf(String call) {
    List<String> names = new ArrayList<>();
    for (String sentence : sections.getOrDefault(call, List.of())) {
      if (sentence.startsWith("Throws ")) {
        names.add(sentence.split(" ")[1]);
      }
    }
    return names;
  }

  Set<String> sections() {
    return sections.keySet();
  }
}
