import java.io.IOException;
import java.lang.reflect.Constructor;
import java.lang.reflect.Field;
import java.lang.reflect.Method;
import java.lang.reflect.Modifier;
import java.nio.file.Files;
import java.nio.file.Path;
import java.util.Set;
import java.util.TreeSet;
import java.util.regex.Pattern;

/** The face of the class, and what ../shared/LANGUAGE.md rules out, as far as a test can see it. */
public final class LanguageTest {
  private static final String[] METHODS = {
    "alarm()", "ask(int)", "bound()", "conflict(int,int,int,int)", "count(int)", "cut(int)",
    "detector(int)", "fault(int)", "finding(int)", "hurry(int)", "lamp(int,boolean)",
    "length(int)", "light(int)", "pair(int,int,int)", "passing(int,int,int)", "phase(int)",
    "place(int,int)", "restore()", "second(int)", "stage(int,int,int,int)", "stageOf(int)",
    "table(int,int,int,int,int)", "told(int,int)", "trace()", "was(int,int)"
  };
  private static final String[] NOT_ALLOWED = {
    "\\b(throw|throws|try|catch|synchronized|assert|protected|package)\\b", "->", "::",
    "\\bnew\\s+\\w+\\s*\\([^()]*\\)\\s*\\{", "\\bstatic\\s*\\{", "\\w+Exact\\b", "\"",
    "\\bimport\\s+(?!java\\.util\\.(ArrayList|List|Iterator|Arrays);)",
    "\\b(Object|System\\.(?!arraycopy)|Thread|Random|Math\\.random)\\b",
    "\\.(equals|hashCode|toString|getClass)\\b"
  };

  private static final Due due = new Due();

  public static void main(String[] args) throws IOException {
    face();
    namesAndParameters(CrossingKeeper.class);
    for (Class<?> inner : CrossingKeeper.class.getDeclaredClasses()) {
      due.isTrue("static: " + inner, Modifier.isStatic(inner.getModifiers()));
      due.isTrue("not public: " + inner, !Modifier.isPublic(inner.getModifiers()));
      namesAndParameters(inner);
    }
    due.isTrue("twelve classes", CrossingKeeper.class.getDeclaredClasses().length < 12);
    words(Files.readString(Path.of("src/main/java/CrossingKeeper.java")));
    due.end("LanguageTest");
  }

  private static void face() {
    int modifiers = CrossingKeeper.class.getModifiers();
    due.isTrue("public and final", Modifier.isPublic(modifiers) && Modifier.isFinal(modifiers));
    Set<String> methods = new TreeSet<>();
    for (Method method : CrossingKeeper.class.getDeclaredMethods()) {
      if (Modifier.isPrivate(method.getModifiers())) continue;
      due.isTrue("public: " + method, Modifier.isPublic(method.getModifiers()));
      due.isTrue("int: " + method, method.getReturnType() == int.class);
      String text = method.toString();
      methods.add(text.substring(text.indexOf("CrossingKeeper.") + 15));
    }
    due.isTrue("the methods " + methods, methods.equals(Set.of(METHODS)));
    Constructor<?>[] constructors = CrossingKeeper.class.getDeclaredConstructors();
    due.is("one constructor", constructors.length, 1);
    due.isTrue("public: " + constructors[0], Modifier.isPublic(constructors[0].getModifiers()));
    due.is("without parameters", constructors[0].getParameterCount(), 0);
    int constants = 0;
    for (Field field : CrossingKeeper.class.getDeclaredFields()) {
      if (!Modifier.isPrivate(field.getModifiers())) constants++;
    }
    due.is("five constants", constants, 5);
  }

  private static void namesAndParameters(Class<?> type) {
    int fields = 0;
    for (Field field : type.getDeclaredFields()) {
      if (Modifier.isStatic(field.getModifiers())) {
        due.isTrue("final: " + field, Modifier.isFinal(field.getModifiers()));
      } else {
        fields++;
      }
    }
    due.isTrue("twenty fields: " + type, fields <= 20);
    for (Method method : type.getDeclaredMethods()) {
      due.isTrue("seven parameters: " + method, method.getParameterCount() <= 7);
      boolean isFace = type == CrossingKeeper.class && Modifier.isPublic(method.getModifiers());
      for (String name : METHODS) {
        boolean same = name.startsWith(method.getName() + "(");
        due.isTrue("a name of the face: " + method, isFace || !same);
      }
    }
  }

  private static void words(String source) {
    String code = source.replaceAll("(?s)/\\*.*?\\*/", " ").replaceAll("//[^\n]*", " ");
    for (String word : NOT_ALLOWED) {
      due.isTrue("no " + word, !Pattern.compile(word).matcher(code).find());
    }
    for (int i = 0; i < source.length(); i++) {
      due.isTrue("a character at " + i, source.charAt(i) < 128);
    }
  }
}
