import java.lang.management.ManagementFactory;
import java.lang.reflect.Constructor;
import java.lang.reflect.Field;
import java.lang.reflect.Method;
import java.lang.reflect.Modifier;
import java.nio.file.Files;
import java.nio.file.Path;
import java.util.ArrayList;
import java.util.List;
import java.util.Set;
import java.util.TreeSet;
import java.util.regex.Matcher;
import java.util.regex.Pattern;

/** Rules of LANGUAGE.md that can be seen in the class's text, in what it compiles to, or measured. */
public final class LanguageTest {
  private static final Set<String> EXCEPTIONS =
      Set.of(
          "IllegalStateException",
          "IllegalArgumentException",
          "IndexOutOfBoundsException",
          "ArithmeticException",
          "UnsupportedOperationException",
          "NoSuchElementException",
          "RuntimeException");
  private static final Set<String> IMPORTS =
      Set.of(
          "java.util.ArrayList",
          "java.util.Arrays",
          "java.util.Iterator",
          "java.util.List",
          "java.util.NoSuchElementException");
  private static final String[] NOT_THERE = {
    "\\bpackage\\b", "->", "::", "\\bsynchronized\\b", "\\bassert\\b", "\\bfinally\\b",
    "\\bstatic\\s*\\{", "\\bThread\\b", "\\bRandom\\b", "Exact\\b", "\\bgetMessage\\b",
    "\\bgetClass\\b", "\\bhashCode\\b", "\\bequals\\b", "\\btoString\\b", "\\bnative\\b",
    "\\bSystem\\.(?!arraycopy\\()", "\\bArrays\\.(?!(?:fill|copyOf|copyOfRange)\\()",
    "\\bprotected\\b", "\\bjava\\.", "while \\(true\\)", "for \\(;;\\)"
  };
  private static final int MOST_PARAMETERS = 7;
  private static final int MOST_LINES = 60;
  private static final int MOST_CLASSES = 12;
  private static final int MOST_FIELDS = 20;

  public static void main(String[] args) throws Exception {
    String source = Files.readString(Path.of("src/main/java/LockstepNet.java"));
    String code = withoutTexts(source);
    Due.test("imports", () -> imports(code));
    Due.test("what is not there", () -> notThere(code));
    Due.test("throws", () -> throwsOnly(code));
    Due.test("short methods", () -> shortMethods(code));
    Due.test("classes", LanguageTest::classes);
    Due.test("members", LanguageTest::members);
    Due.test("the room", LanguageTest::room);
    Due.finish();
  }

  /** Words of comments and texts bind no one. */
  private static String withoutTexts(String source) {
    return source
        .replaceAll("(?s)/\\*.*?\\*/", "")
        .replaceAll("//[^\n]*", "")
        .replaceAll("\"[^\"\n]*\"", "\"\"");
  }

  private static void imports(String code) {
    Matcher found = Pattern.compile("(?m)^import (.*);$").matcher(code);
    while (found.find()) {
      Due.same("may be used: " + found.group(1), true, IMPORTS.contains(found.group(1)));
    }
  }

  private static void notThere(String code) {
    String behindImports = code.replaceAll("(?m)^import .*$", "");
    for (String pattern : NOT_THERE) {
      Matcher found = Pattern.compile(pattern).matcher(behindImports);
      Due.same(pattern, "not there", found.find() ? "there" : "not there");
    }
  }

  private static void throwsOnly(String code) {
    Matcher found = Pattern.compile("\\bthrow\\b([^;]*);").matcher(code);
    Pattern right = Pattern.compile(" new (\\w+)\\((?:\"\")?\\)");
    while (found.find()) {
      Matcher form = right.matcher(found.group(1));
      boolean fits = form.matches() && EXCEPTIONS.contains(form.group(1));
      Due.same("throw" + found.group(1), true, fits);
    }
  }

  private static void shortMethods(String code) {
    String[] lines = code.split("\n");
    Pattern head = Pattern.compile("( +)(?:public|private) [^=;]*\\(.*");
    for (int i = 0; i < lines.length; i++) {
      Matcher begins = head.matcher(lines[i]);
      if (!begins.matches()) continue;
      int end = i;
      while (end < lines.length && !lines[end].equals(begins.group(1) + "}")) {
        end++;
      }
      Due.same("short: " + lines[i].strip(), true, end - i < MOST_LINES);
    }
  }

  private static List<Class<?>> all() {
    List<Class<?>> all = new ArrayList<>();
    all.add(LockstepNet.class);
    for (int i = 0; i < all.size(); i++) {
      all.addAll(List.of(all.get(i).getDeclaredClasses()));
    }
    return all;
  }

  private static void classes() {
    Due.same("not too many", true, all().size() <= MOST_CLASSES);
    for (Class<?> one : all()) {
      int own = 0;
      for (Field field : one.getDeclaredFields()) {
        if (!Modifier.isStatic(field.getModifiers())) own++;
        Due.same("private: " + field, true, Modifier.isPrivate(field.getModifiers()));
        Due.same("constant: " + field, true, isOwnOrConstant(field));
      }
      Due.same("not too many fields: " + one, true, own <= MOST_FIELDS);
    }
  }

  private static boolean isOwnOrConstant(Field field) {
    if (!Modifier.isStatic(field.getModifiers())) return true;
    Set<Class<?>> types =
        Set.of(
            int.class, long.class, boolean.class, char.class, String.class,
            int[].class, long[].class, char[].class, byte[].class);
    return Modifier.isFinal(field.getModifiers()) && types.contains(field.getType());
  }

  private static void members() {
    Set<String> face = new TreeSet<>();
    for (Method method : LockstepNet.class.getDeclaredMethods()) {
      if (Modifier.isPublic(method.getModifiers())) face.add(method.getName());
    }
    for (Class<?> one : all()) {
      for (Method method : one.getDeclaredMethods()) {
        Due.same("few: " + method, true, method.getParameterCount() <= MOST_PARAMETERS);
        if (one == LockstepNet.class && Modifier.isPublic(method.getModifiers())) continue;
        Due.same("private: " + method, true, Modifier.isPrivate(method.getModifiers()));
        Due.same("a name of its own: " + method, false, face.contains(method.getName()));
      }
      for (Constructor<?> made : one.getDeclaredConstructors()) {
        Due.same("few: " + made, true, made.getParameterCount() <= MOST_PARAMETERS);
      }
    }
  }

  private static long allocated() {
    return ((com.sun.management.ThreadMXBean) ManagementFactory.getThreadMXBean())
        .getThreadAllocatedBytes(Thread.currentThread().getId());
  }

  /** Rows are made with the object and used again: the dearest calls make nothing. */
  private static void room() {
    dearCalls(Nets.full());
    long before = allocated();
    LockstepNet x = new LockstepNet();
    long made = allocated() - before;
    Due.same("an object keeps to 64 KiB, not " + made, true, made < 65536 && x.letters() == 0);
    LockstepNet y = Nets.full();
    before = allocated();
    dearCalls(y);
    made = allocated() - before;
    Due.same("calls make nothing, not " + made + " bytes", true, made < 4096);
  }

  private static void dearCalls(LockstepNet x) {
    for (int way = 0; way < 3; way++) {
      x.builtin(2 + way);
      x.check();
      x.lockstep(300);
      x.prepare(way, 2 + way);
      x.stopAt(500);
      for (int i = 0; i < 40; i++) {
        x.deliverAll(i % 3, i, 2000);
        if (i % 5 == 0) x.switchTo(i % 3);
      }
      x.release();
    }
  }
}
