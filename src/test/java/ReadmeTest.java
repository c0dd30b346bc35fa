import java.io.IOException;
import java.lang.reflect.Method;
import java.lang.reflect.Modifier;
import java.nio.file.Files;
import java.nio.file.Path;
import java.util.HashSet;
import java.util.List;
import java.util.Set;
import java.util.regex.Matcher;
import java.util.regex.Pattern;

/** The run of calls that README.md shows: it must stay true, and leave out no method. */
public final class ReadmeTest {
  private static final List<String> NAMES = List.of("BAD", "FULL", "STATE", "MEET", "NONE");
  private static final Pattern BLOCK = Pattern.compile("(?s)```java\n(.*?)```");
  private static final Pattern CALL = Pattern.compile("x\\.(\\w+)\\((.*)\\); +// (\\S+).*");

  private static final Due due = new Due();

  public static void main(String[] args) throws IOException {
    String text = Files.readString(Path.of("README.md"));
    Matcher block = BLOCK.matcher(text);
    due.isTrue("README.md has a run of calls", block.find());
    Set<String> shown = new HashSet<>();
    CrossingKeeper keeper = new CrossingKeeper();
    for (String line : block.group(1).split("\n")) {
      if (!line.startsWith("x.")) continue;
      Matcher call = CALL.matcher(line);
      due.isTrue("a call with its answer: " + line, call.matches());
      shown.add(call.group(1));
      due.is("README.md: " + line, made(call).on(keeper), number(call.group(3)));
    }
    for (Method method : CrossingKeeper.class.getDeclaredMethods()) {
      if (!Modifier.isPublic(method.getModifiers())) continue;
      due.isTrue("README.md shows " + method.getName(), shown.contains(method.getName()));
    }
    due.isTrue("README.md names .ci/run", text.contains("```sh\n.ci/run\n```"));
    due.end("ReadmeTest");
  }

  private static Call made(Matcher call) {
    String arguments = call.group(2);
    if (arguments.isEmpty()) return new Call(call.group(1));
    String[] words = arguments.split(", ");
    int[] a = new int[words.length];
    for (int i = 0; i < a.length; i++) a[i] = number(words[i]);
    return new Call(call.group(1), a);
  }

  private static int number(String word) {
    if (word.equals("true")) return 1;
    if (word.equals("false")) return 0;
    // The five constants are -1 to -5, in this order.
    int at = NAMES.indexOf(word);
    return at >= 0 ? -1 - at : Integer.parseInt(word);
  }
}
