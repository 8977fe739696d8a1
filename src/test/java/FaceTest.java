import java.lang.reflect.Constructor;
import java.lang.reflect.Field;
import java.lang.reflect.Method;
import java.lang.reflect.Modifier;
import java.util.Map;
import java.util.Set;
import java.util.TreeMap;
import java.util.TreeSet;

/** The public face is the document's and no more; rules 1 and 5 of LANGUAGE.md. */
public final class FaceTest {
  private static final Check check = new Check();
  private static final String[] FACE = {
    "int entry(1) UnsupportedOperationException",
    "void key(2) NoSuchElementException IllegalArgumentException UnsupportedOperationException",
    "void field(3) NoSuchElementException IndexOutOfBoundsException IllegalArgumentException"
        + " UnsupportedOperationException",
    "int cite(1) NoSuchElementException UnsupportedOperationException",
    "int cross(2) NoSuchElementException",
    "int style(2) IllegalArgumentException",
    "int run(0)",
    "int row(1) IndexOutOfBoundsException",
    "int letter(1) IndexOutOfBoundsException",
    "int initials(3) NoSuchElementException IndexOutOfBoundsException",
    "int missing(2) IndexOutOfBoundsException",
    "int print(1) IndexOutOfBoundsException",
    "int at(1) IndexOutOfBoundsException",
    "int twice(1) IndexOutOfBoundsException"
  };

  public static void main(String[] args) {
    Class<?> face = CiteLists.class;
    check.due("public", true, Modifier.isPublic(face.getModifiers()));
    check.due("final", true, Modifier.isFinal(face.getModifiers()));
    constructors(face);
    methods(face);
    fields(face);
    for (Class<?> inside : face.getDeclaredClasses()) {
      check.due(inside + " is static", true, Modifier.isStatic(inside.getModifiers()));
      check.due(inside + " is private", true, Modifier.isPrivate(inside.getModifiers()));
      fields(inside);
    }
    check.end("FaceTest");
  }

  private static void constructors(Class<?> face) {
    Constructor<?>[] made = face.getDeclaredConstructors();
    check.due("constructors", 1, made.length);
    check.due("parameters of the constructor", 0, made[0].getParameterCount());
    check.due("public constructor", true, Modifier.isPublic(made[0].getModifiers()));
  }

  private static void methods(Class<?> face) {
    Map<String, String> seen = new TreeMap<>();
    Set<String> hidden = new TreeSet<>();
    for (Method method : face.getDeclaredMethods()) {
      if (Modifier.isPrivate(method.getModifiers())) {
        hidden.add(method.getName());
        continue;
      }
      check.due(method + " is public", true, Modifier.isPublic(method.getModifiers()));
      check.due(method + " is static", false, Modifier.isStatic(method.getModifiers()));
      seen.put(method.getName(), written(method));
    }
    check.due("methods", FACE.length, seen.size());
    for (String want : FACE) {
      String name = want.substring(want.indexOf(' ') + 1, want.indexOf('('));
      check.due(name, want, String.valueOf(seen.get(name)));
      check.due("a private method " + name, false, hidden.contains(name));
    }
  }

  private static String written(Method method) {
    StringBuilder text = new StringBuilder();
    text.append(method.getReturnType().getName()).append(' ').append(method.getName());
    text.append('(').append(method.getParameterCount()).append(')');
    for (Class<?> parameter : method.getParameterTypes()) {
      check.due("parameter of " + method.getName(), int.class, parameter);
    }
    for (Class<?> thrown : method.getExceptionTypes()) {
      text.append(' ').append(thrown.getSimpleName());
    }
    return text.toString();
  }

  private static void fields(Class<?> owner) {
    for (Field field : owner.getDeclaredFields()) {
      if (owner == CiteLists.class) {
        check.due(field + " is private", true, Modifier.isPrivate(field.getModifiers()));
      }
      if (Modifier.isStatic(field.getModifiers())) {
        check.due(field + " is final", true, Modifier.isFinal(field.getModifiers()));
      }
    }
  }
}
