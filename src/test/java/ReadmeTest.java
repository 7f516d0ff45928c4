import java.io.IOException;
import java.lang.reflect.InvocationTargetException;
import java.lang.reflect.Method;
import java.lang.reflect.Modifier;
import java.nio.file.Files;
import java.nio.file.Path;
import java.util.ArrayList;
import java.util.List;
import java.util.regex.Matcher;
import java.util.regex.Pattern;

/** What README.md says of the class: its example is run, its table of calls is held against the face. */
final class ReadmeTest {
  private static final Path README = Path.of("README.md");
  private static final String NEW_OBJECT = "ShadowHeap x = new ShadowHeap();";
  private static final Pattern EXAMPLE = Pattern.compile("(?s)```java\n(.*?)```");
  private static final Pattern CALL = Pattern.compile("x\\.(\\w+)\\((.*?)\\);\\s*// (.*)");
  private static final Pattern ANSWER = Pattern.compile("(-?\\d+|throws \\w+): .*");
  private static final Pattern ROW = Pattern.compile("(?m)^\\| `(\\w+)\\((.*?)\\)` \\|(.*)\\|(.*)\\|$");
  private static final Pattern EXCEPTION = Pattern.compile("`(\\w+Exception)`");

  private ReadmeTest() {}

  public static void main(String[] args) throws IOException, IllegalAccessException {
    String readme = Files.readString(README);
    runTheExamples(readme);
    compareTheTableOfCalls(readme);
    Check.end();
  }

  private static void runTheExamples(String readme) throws IllegalAccessException {
    Check.begin("README.md, example");
    int calls = 0;
    Matcher example = EXAMPLE.matcher(readme);
    while (example.find()) {
      ShadowHeap x = new ShadowHeap();
      for (String line : example.group(1).split("\n")) {
        if (line.startsWith("x.")) {
          runLine(x, line);
          calls++;
        } else {
          Check.holds(line + " is a new object or nothing", line.isEmpty() || line.equals(NEW_OBJECT));
        }
      }
    }
    Check.holds("there is an example with calls", calls > 0);
  }

  private static void runLine(ShadowHeap x, String line) throws IllegalAccessException {
    Matcher call = CALL.matcher(line);
    if (!call.matches()) {
      Check.note(line + " is no call with what it answers");
      return;
    }
    Method method = methodOf(call.group(1));
    Matcher due = ANSWER.matcher(call.group(3));
    if (method == null) {
      Check.note(line + " calls what the class does not have");
    } else {
      String got = answerOf(x, method, call.group(2));
      Check.same(line, due.matches() ? due.group(1) : "nothing", got);
    }
  }

  private static String answerOf(ShadowHeap x, Method method, String written) throws IllegalAccessException {
    try {
      Object answer = method.invoke(x, valuesOf(method, written));
      return answer == null ? "nothing" : answer.toString();
    } catch (InvocationTargetException e) {
      return "throws " + e.getCause().getClass().getSimpleName();
    }
  }

  private static Object[] valuesOf(Method method, String written) {
    String[] parts = partsOf(written);
    Object[] values = new Object[parts.length];
    for (int i = 0; i < parts.length; i++) {
      boolean isTruth = method.getParameterTypes()[i] == boolean.class;
      values[i] = isTruth ? (Object) Boolean.valueOf(parts[i]) : (Object) Integer.valueOf(parts[i]);
    }
    return values;
  }

  private static String[] partsOf(String written) {
    return written.isEmpty() ? new String[0] : written.split(", ");
  }

  private static void compareTheTableOfCalls(String readme) {
    Check.begin("README.md, table of the calls");
    List<String> named = new ArrayList<>();
    Matcher row = ROW.matcher(readme);
    while (row.find()) {
      named.add(row.group(1));
      Method method = methodOf(row.group(1));
      if (method == null) {
        Check.note("the class has no " + row.group(1));
      } else {
        Check.same("parameters of " + row.group(1),
            method.getParameterCount(), partsOf(row.group(2)).length);
        Check.same("exceptions of " + row.group(1),
            exceptionsOf(method).toString(), exceptionsIn(row.group(4)).toString());
      }
    }
    for (Method method : publicMethods()) {
      Check.holds(method.getName() + " stands in one row", named.indexOf(method.getName()) >= 0
          && named.indexOf(method.getName()) == named.lastIndexOf(method.getName()));
    }
  }

  private static List<String> exceptionsOf(Method method) {
    List<String> names = new ArrayList<>();
    for (Class<?> thrown : method.getExceptionTypes()) {
      names.add(thrown.getSimpleName());
    }
    return names;
  }

  private static List<String> exceptionsIn(String text) {
    List<String> names = new ArrayList<>();
    Matcher exception = EXCEPTION.matcher(text);
    while (exception.find()) {
      names.add(exception.group(1));
    }
    return names;
  }

  private static Method methodOf(String name) {
    for (Method method : publicMethods()) {
      if (method.getName().equals(name)) {
        return method;
      }
    }
    return null;
  }

  private static List<Method> publicMethods() {
    List<Method> methods = new ArrayList<>();
    for (Method method : ShadowHeap.class.getDeclaredMethods()) {
      if (Modifier.isPublic(method.getModifiers())) {
        methods.add(method);
      }
    }
    return methods;
  }
}
