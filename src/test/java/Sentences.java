import java.io.IOException;
import java.nio.file.Files;
import java.nio.file.Path;
import java.util.LinkedHashMap;
import java.util.Map;
import java.util.function.Supplier;
import java.util.regex.Matcher;
import java.util.regex.Pattern;

/**
 * Answers that are due by a sentence of the document. A test says which sentence it looks at; a
 * sentence that the document does not have, and words of it that no test named, are faults too.
 */
final class Sentences {
  private static final Path DOCUMENT = Path.of("../shared/DOC.md");

  private final Due due = new Due();
  private final Map<String, String> texts = new LinkedHashMap<>();
  private final Map<String, boolean[]> named = new LinkedHashMap<>();
  private String where = "";
  private String sentence = "";

  Sentences() throws IOException {
    // The shared tests may be handed over without the document; the answers are due all the same.
    if (!Files.isReadable(DOCUMENT)) return;
    String document = Files.readString(DOCUMENT);
    Matcher promises = Pattern.compile("(?s)## Promise (\\d+): [^\n]*\n(.*?)(?=\n## )").matcher(document);
    while (promises.find()) {
      put("promise " + promises.group(1), promises.group(2).replaceFirst("`[^`]*`:", ""));
    }
    put("what it is", document.replaceAll("(?s).*\n(An object is used [^\n]*)\n.*", "$1"));
    String terms = document.replaceAll("(?s).*\n## Terms\n(.*?)\n## .*", "$1");
    String[] parts = terms.split("==== \\d ");
    for (int i = 0; i < parts.length; i++) put("part " + (i + 1), parts[i].replaceAll("```(text)?", ""));
  }

  private void put(String section, String text) {
    String plain = plain(text);
    texts.put(section, plain);
    named.put(section, new boolean[plain.length()]);
  }

  private static String plain(String text) {
    return text.replaceAll("\\s+", " ").trim();
  }

  /** What follows is due by this sentence of "promise n", or of "part n" of the terms. */
  void says(String where, String sentence) {
    this.where = where;
    this.sentence = sentence;
    if (texts.isEmpty()) return;
    String text = texts.getOrDefault(where, "");
    String wanted = plain(sentence);
    int at = text.indexOf(wanted);
    due.isTrue(where + " has the sentence \"" + sentence + "\"", at >= 0);
    for (int i = 0; at >= 0 && i < wanted.length(); i++) named.get(where)[at + i] = true;
  }

  void is(String what, int got, int want) {
    due.is(where + " \"" + sentence + "\": " + what, got, want);
  }

  void is(Supplier<String> what, int got, int want) {
    due.is(() -> where + " \"" + sentence + "\": " + what.get(), got, want);
  }

  void end(String name) {
    for (Map.Entry<String, String> section : texts.entrySet()) {
      boolean[] marks = named.get(section.getKey());
      StringBuilder rest = new StringBuilder();
      for (int i = 0; i < marks.length; i++) {
        if (!marks[i]) rest.append(section.getValue().charAt(i));
        else if (rest.length() > 0 && rest.charAt(rest.length() - 1) != '|') rest.append('|');
      }
      boolean all = !Pattern.compile("\\w").matcher(rest).find();
      due.isTrue(section.getKey() + " is named but for \"" + rest + "\"", all);
    }
    due.end(name);
  }
}
