import java.io.IOException;
import java.nio.file.Files;
import java.nio.file.Path;
import java.util.Map;
import java.util.TreeMap;

/** The document's sections, and which of their words some test is for. */
final class Document {
  private static final class Section {
    final String text;
    final boolean[] quoted;

    Section(String text) {
      this.text = text;
      quoted = new boolean[text.length()];
    }
  }

  private final Map<String, Section> sections = new TreeMap<>();

  Document(Path path) throws IOException {
    for (String part : Files.readString(path).split("\n## ")) {
      int headingEnd = part.indexOf('\n');
      String heading = part.substring(0, Math.max(headingEnd, 0)).trim();
      sections.put(heading, new Section(plainWords(part.substring(headingEnd + 1))));
    }
  }

  // A promise begins with its method's face, which FaceTest looks at.
  private static String plainWords(String text) {
    return text.replaceAll("```\\w*", " ").replaceAll("\\s+", " ").trim().replaceFirst("^`[^`]*`: ", "");
  }

  void quote(String heading, String words) {
    Section section = sections.get(heading);
    if (section == null) {
      Check.note("the document has no section " + heading);
      return;
    }
    int at = section.text.indexOf(words);
    if (at < 0) {
      Check.note("the document does not say there: " + words);
    }
    for (; at >= 0; at = section.text.indexOf(words, at + 1)) {
      for (int i = at; i < at + words.length(); i++) {
        section.quoted[i] = true;
      }
    }
  }

  /** Each word of the terms and of the promises stands in what some test is for. */
  void noteWhatNoTestIsFor() {
    for (Map.Entry<String, Section> entry : sections.entrySet()) {
      String heading = entry.getKey();
      if (heading.equals("Terms") || heading.startsWith("Promise ")) {
        Check.same("words of \"" + heading + "\" that no test is for", "", unquoted(entry.getValue()));
      }
    }
  }

  private static String unquoted(Section section) {
    StringBuilder left = new StringBuilder();
    for (int i = 0; i < section.quoted.length; i++) {
      left.append(section.quoted[i] ? ' ' : section.text.charAt(i));
    }
    return left.toString().replaceAll("\\s+", " ").trim();
  }
}
