import java.lang.reflect.Constructor;
import java.lang.reflect.Field;
import java.lang.reflect.Method;
import java.lang.reflect.Modifier;
import java.util.Arrays;
import java.util.Set;
import java.util.TreeSet;

/** The public face is the document's, and nothing else of the class can be seen from outside. */
final class FaceTest {
  private static final String[] FACE = {
    "int code(int, int, int, int, int) IllegalArgumentException IndexOutOfBoundsException",
    "void clear()",
    "int rewrite() IllegalStateException",
    "int rewritten(int, int) IllegalStateException IndexOutOfBoundsException IllegalArgumentException",
    "void start(boolean, int, int) IllegalStateException",
    "int step(int) IllegalStateException IllegalArgumentException",
    "int look(int) IllegalArgumentException",
    "int register(int) IllegalArgumentException",
    "int printed(int) IndexOutOfBoundsException",
    "int heap(int) IndexOutOfBoundsException",
    "int shadow(int) IndexOutOfBoundsException",
    "int report(int) IllegalStateException IllegalArgumentException",
  };

  private FaceTest() {}

  public static void main(String[] args) {
    Class<?> face = ShadowHeap.class;
    Check.same("class", "public final", Modifier.toString(face.getModifiers()));
    Constructor<?>[] constructors = face.getDeclaredConstructors();
    Check.same("constructors", "[public ShadowHeap()]", Arrays.toString(constructors));
    methodsOfTheFace(face);
    for (Field field : face.getDeclaredFields()) {
      Check.holds(field.getName() + " is private", Modifier.isPrivate(field.getModifiers()));
    }
    for (Class<?> inside : face.getDeclaredClasses()) {
      int modifiers = inside.getModifiers();
      Check.holds(inside.getName() + " is private or package-visible",
          !Modifier.isPublic(modifiers) && !Modifier.isProtected(modifiers));
    }
    Check.end();
  }

  private static void methodsOfTheFace(Class<?> face) {
    Set<String> seen = new TreeSet<>();
    Set<String> names = new TreeSet<>();
    for (Method method : face.getDeclaredMethods()) {
      if (!Modifier.isPrivate(method.getModifiers())) {
        seen.add(written(method));
        names.add(method.getName());
        Check.holds(method.getName() + " is public", Modifier.isPublic(method.getModifiers()));
        Check.holds(method.getName() + " is not static", !Modifier.isStatic(method.getModifiers()));
      }
    }
    Check.same("methods", new TreeSet<>(Arrays.asList(FACE)).toString(), seen.toString());
    noPrivateMethodBearsAPublicName(face, names);
    for (Class<?> inside : face.getDeclaredClasses()) {
      noPrivateMethodBearsAPublicName(inside, names);
    }
  }

  private static void noPrivateMethodBearsAPublicName(Class<?> type, Set<String> names) {
    for (Method method : type.getDeclaredMethods()) {
      if (Modifier.isPrivate(method.getModifiers())) {
        Check.holds(type.getName() + "." + method.getName() + " bears no public name",
            !names.contains(method.getName()));
      }
    }
  }

  private static String written(Method method) {
    StringBuilder text = new StringBuilder(method.getReturnType().getName());
    String parameters = Arrays.toString(method.getParameterTypes());
    text.append(' ').append(method.getName());
    text.append('(').append(parameters, 1, parameters.length() - 1).append(')');
    for (Class<?> thrown : method.getExceptionTypes()) {
      text.append(' ').append(thrown.getSimpleName());
    }
    return text.toString();
  }
}
