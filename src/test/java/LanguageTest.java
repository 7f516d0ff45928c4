import java.io.IOException;
import java.lang.reflect.Executable;
import java.lang.reflect.Field;
import java.lang.reflect.Modifier;
import java.nio.file.Files;
import java.nio.file.Path;
import java.util.ArrayList;
import java.util.List;
import java.util.regex.Matcher;
import java.util.regex.Pattern;

/** Those rules of LANGUAGE.md that can be read off the class or its text, each named by its number. */
final class LanguageTest {
  private static final Path SOURCE = Path.of("src", "main", "java", "ShadowHeap.java");
  private static final String IMPORTS = "java\\.util\\.(ArrayList|List|Arrays|Iterator|NoSuchElementException)";
  private static final String[][] NEVER = {
    {"1 no package", "\\bpackage\\b"},
    {"2 no method reference", "::"},
    {"4 none whose name ends in Exact", "Exact\\s*\\("},
    {"5 no static initialiser", "\\bstatic\\s*\\{"},
    {"6 no finally, synchronized, assert", "\\b(finally|synchronized|assert)\\b"},
    {"6 no equals, hashCode, toString of its own", "\\bpublic\\s+\\w+\\s+(equals|hashCode|toString)\\b"},
    {"6 only its exceptions", "\\bthrow\\s+new\\s+(?!(IllegalState|IllegalArgument|IndexOutOfBounds|Arithmetic"
        + "|UnsupportedOperation|NoSuchElement|Runtime)Exception\\()"},
    {"6 no rethrow", "\\bthrow\\s+(?!new\\b)"},
    {"13 no clock, randomness, file, network, thread, environment",
        "\\b(System\\s*\\.\\s*(?!arraycopy\\b)|Math\\s*\\.\\s*random|Random|Thread|File|Files|Path|Socket|Runtime)\\b"},
  };

  private LanguageTest() {}

  public static void main(String[] args) throws IOException {
    String source = withoutCommentsAndTexts(Files.readString(SOURCE));
    for (String[] rule : NEVER) {
      Matcher found = Pattern.compile(rule[1]).matcher(source);
      Check.same("rule " + rule[0], "", found.find() ? found.group() : "");
    }
    Matcher imported = Pattern.compile("\\bimport\\s+([^;]+);").matcher(source);
    while (imported.find()) {
      Check.holds("rule 4 import of " + imported.group(1), imported.group(1).matches(IMPORTS));
    }
    for (Class<?> type : classes()) {
      staticFieldsAreFinal(type);
      atMostSevenParameters(type);
    }
    Check.end();
  }

  private static String withoutCommentsAndTexts(String source) {
    return source.replaceAll("\"(\\\\.|[^\"\\\\\n])*\"", "\"\"")
        .replaceAll("(?s)/\\*.*?\\*/", " ")
        .replaceAll("//[^\n]*", " ");
  }

  private static List<Class<?>> classes() {
    List<Class<?>> all = new ArrayList<>();
    all.add(ShadowHeap.class);
    for (int i = 0; i < all.size(); i++) {
      all.addAll(List.of(all.get(i).getDeclaredClasses()));
    }
    return all;
  }

  private static void staticFieldsAreFinal(Class<?> type) {
    for (Field field : type.getDeclaredFields()) {
      int modifiers = field.getModifiers();
      Check.holds("rule 5 " + type.getName() + "." + field.getName() + " is final, if static",
          !Modifier.isStatic(modifiers) || Modifier.isFinal(modifiers));
    }
  }

  private static void atMostSevenParameters(Class<?> type) {
    List<Executable> all = new ArrayList<>(List.of(type.getDeclaredMethods()));
    all.addAll(List.of(type.getDeclaredConstructors()));
    for (Executable one : all) {
      Check.holds("rule 11 " + type.getName() + "." + one.getName() + " has at most seven parameters",
          one.getParameterCount() <= 7);
    }
  }
}
