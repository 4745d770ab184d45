import java.lang.reflect.Constructor;
import java.lang.reflect.Field;
import java.lang.reflect.Method;
import java.lang.reflect.Modifier;
import java.util.Arrays;
import java.util.TreeSet;

/** The class shows the document's constructor and methods, and nothing else. */
public final class FaceTest {
  private static final String[] FACE = {
    "void net(int) IllegalArgumentException IllegalStateException",
    "int link(int,int) NoSuchElementException IllegalArgumentException IllegalStateException"
        + " UnsupportedOperationException",
    "int word(int,int,int,int,int) IllegalArgumentException IllegalStateException"
        + " UnsupportedOperationException",
    "int builtin(int) IllegalArgumentException IllegalStateException",
    "void cutAt(int) IllegalArgumentException IllegalStateException",
    "int check()",
    "void input(int,int,int) NoSuchElementException IndexOutOfBoundsException"
        + " IllegalStateException",
    "void lockstep(int) IllegalArgumentException IllegalStateException",
    "int plain(int,int) NoSuchElementException IndexOutOfBoundsException",
    "int prepare(int,int) IllegalArgumentException IllegalStateException",
    "void release() IllegalStateException",
    "void stopAt(int) IllegalStateException IllegalArgumentException",
    "int letters()",
    "int letter(int,int) IndexOutOfBoundsException",
    "int deliver(int) IndexOutOfBoundsException",
    "int deliverAll(int,int,int) IllegalArgumentException IllegalStateException",
    "int switchTo(int) IllegalArgumentException IllegalStateException"
        + " UnsupportedOperationException",
    "int roundOf(int) NoSuchElementException IllegalStateException",
    "int value(int,int) NoSuchElementException IndexOutOfBoundsException IllegalStateException",
    "int place(int,int) NoSuchElementException IndexOutOfBoundsException IllegalStateException",
    "int chosen(int,int) IndexOutOfBoundsException",
    "int count(int) IndexOutOfBoundsException",
  };

  public static void main(String[] args) {
    Class<?> face = LockstepNet.class;
    Due.same("modifiers", "public final", Modifier.toString(face.getModifiers()));
    Due.same("interfaces", 0, face.getInterfaces().length);
    Due.same("what it extends", Object.class, face.getSuperclass());
    methods(face);
    constructors(face);
    for (Field field : face.getDeclaredFields()) {
      Due.same("private " + field, true, Modifier.isPrivate(field.getModifiers()));
    }
    for (Class<?> inside : face.getDeclaredClasses()) {
      Due.same("static " + inside, true, Modifier.isStatic(inside.getModifiers()));
      Due.same("hidden " + inside, false, Modifier.isPublic(inside.getModifiers()));
      staticFields(inside);
    }
    staticFields(face);
    Due.finish();
  }

  private static void methods(Class<?> face) {
    TreeSet<String> shown = new TreeSet<>();
    TreeSet<String> names = new TreeSet<>();
    for (Method method : face.getDeclaredMethods()) {
      if (Modifier.isPrivate(method.getModifiers())) continue;
      Due.same("public " + method, "public", Modifier.toString(method.getModifiers()));
      shown.add(text(method));
      names.add(method.getName());
    }
    Due.same("the face", new TreeSet<>(Arrays.asList(FACE)), shown);
    for (Method method : face.getDeclaredMethods()) {
      if (!Modifier.isPrivate(method.getModifiers())) continue;
      Due.same("own name of " + method, false, names.contains(method.getName()));
    }
  }

  private static String text(Method method) {
    StringBuilder text = new StringBuilder();
    text.append(method.getReturnType().getSimpleName()).append(' ').append(method.getName());
    text.append('(');
    String comma = "";
    for (Class<?> type : method.getParameterTypes()) {
      text.append(comma).append(type.getSimpleName());
      comma = ",";
    }
    text.append(')');
    for (Class<?> type : method.getExceptionTypes()) {
      text.append(' ').append(type.getSimpleName());
    }
    return text.toString();
  }

  private static void constructors(Class<?> face) {
    Constructor<?>[] all = face.getDeclaredConstructors();
    Due.same("constructors", 1, all.length);
    Due.same("the constructor", "public LockstepNet()", all[0].toString());
  }

  private static void staticFields(Class<?> owner) {
    for (Field field : owner.getDeclaredFields()) {
      int modifiers = field.getModifiers();
      if (!Modifier.isStatic(modifiers)) continue;
      Due.same("final " + field, true, Modifier.isFinal(modifiers));
    }
  }
}
