import java.lang.reflect.Constructor;
import java.lang.reflect.Field;
import java.lang.reflect.Method;
import java.lang.reflect.Modifier;
import java.util.Arrays;
import java.util.Set;
import java.util.TreeSet;

/** The public face is the document's, and nothing else of the class can be seen from outside. */
final class FaceTest {
  private static final String[] FACE = {
    "int code(int, int, int, int, int) IllegalArgumentException IndexOutOfBoundsException",
    "void clear()",
    "int rewrite() IllegalStateException",
    "int rewritten(int, int) IllegalStateException IndexOutOfBoundsException IllegalArgumentException",
    "void start(boolean, int, int) IllegalStateException",
    "int step(int) IllegalStateException IllegalArgumentException",
    "int look(int) IllegalArgumentException",
    "int register(int) IllegalArgumentException",
    "int printed(int) IndexOutOfBoundsException",
    "int heap(int) IndexOutOfBoundsException",
    "int shadow(int) IndexOutOfBoundsException",
    "int report(int) IllegalStateException IllegalArgumentException",
  };

  private FaceTest() {}

  public static void main(String[] args) {
    Class<?> face = ShadowHeap.class;
    Check.same("public final class", "public final", Modifier.toString(face.getModifiers()));
    Set<String> seen = new TreeSet<>();
    Set<String> names = new TreeSet<>();
    for (Method method : face.getDeclaredMethods()) {
      if (!Modifier.isPrivate(method.getModifiers())) {
        seen.add(written(method));
        names.add(method.getName());
        Check.same(method.getName(), "public", Modifier.toString(method.getModifiers()));
      }
    }
    Check.same("methods", new TreeSet<>(Arrays.asList(FACE)).toString(), seen.toString());
    Constructor<?>[] constructors = face.getDeclaredConstructors();
    Check.same("constructors", "[public ShadowHeap()]", Arrays.toString(constructors));
    privateBesides(face, names);
    for (Class<?> inside : face.getDeclaredClasses()) {
      Check.same(inside.getName() + " is static", 1, Modifier.isStatic(inside.getModifiers()) ? 1 : 0);
      Check.same(inside.getName() + " is not public", 0, Modifier.isPublic(inside.getModifiers()) ? 1 : 0);
      privateNames(inside, names);
    }
    Check.end();
  }

  private static String written(Method method) {
    StringBuilder text = new StringBuilder(method.getReturnType().getName());
    String parameters = Arrays.toString(method.getParameterTypes());
    text.append(' ').append(method.getName());
    text.append('(').append(parameters, 1, parameters.length() - 1).append(')');
    for (Class<?> thrown : method.getExceptionTypes()) {
      text.append(' ').append(thrown.getSimpleName());
    }
    return text.toString();
  }

  private static void privateBesides(Class<?> face, Set<String> names) {
    for (Field field : face.getDeclaredFields()) {
      int modifiers = field.getModifiers();
      Check.same(field.getName() + " is private", 1, Modifier.isPrivate(modifiers) ? 1 : 0);
      Check.same(field.getName() + " is final", 1, Modifier.isFinal(modifiers) ? 1 : 0);
    }
    privateNames(face, names);
  }

  private static void privateNames(Class<?> type, Set<String> names) {
    for (Method method : type.getDeclaredMethods()) {
      boolean hidden = type != ShadowHeap.class || Modifier.isPrivate(method.getModifiers());
      Check.same(type.getName() + "." + method.getName() + " bears a public name", 0,
          hidden && names.contains(method.getName()) ? 1 : 0);
    }
  }
}
