import java.lang.reflect.InvocationTargetException;
import java.lang.reflect.Method;
import java.lang.reflect.Modifier;
import java.nio.file.Files;
import java.nio.file.Path;
import java.util.List;
import java.util.Set;
import java.util.TreeSet;
import java.util.regex.Matcher;
import java.util.regex.Pattern;

/** The calls that README.md shows do what it says behind them, and show every call of the face. */
public final class ReadmeTest {
  private static final Pattern MADE = Pattern.compile("LockstepNet x = new LockstepNet\\(\\);");
  private static final Pattern CALL =
      Pattern.compile("x\\.(\\w+)\\(([-0-9, ]*)\\);(?:\\s+// (.*))?");
  /** A comment that says more than words: a number, or an exception's name, and what is no word. */
  private static final Pattern ANSWER = Pattern.compile("(-?\\d+|\\w+Exception)(?![\\w']).*");

  private static LockstepNet x = null;
  private static int answers = 0;
  private static final Set<String> shown = new TreeSet<>();

  public static void main(String[] args) throws Exception {
    boolean java = false;
    List<String> lines = Files.readAllLines(Path.of("README.md"));
    for (int i = 0; i < lines.size(); i++) {
      String line = lines.get(i).strip();
      if (line.startsWith("```")) {
        java = line.equals("```java");
      } else if (java && !line.isEmpty()) {
        done("README.md, line " + (i + 1) + ": " + line, line);
      }
    }
    Set<String> face = new TreeSet<>();
    for (Method method : LockstepNet.class.getDeclaredMethods()) {
      if (Modifier.isPublic(method.getModifiers())) face.add(method.getName());
    }
    Due.same("calls shown", face, shown);
    Due.same("calls with an answer", true, answers > face.size());
    Due.finish();
  }

  private static void done(String what, String line) throws IllegalAccessException {
    if (MADE.matcher(line).matches()) {
      x = new LockstepNet();
      return;
    }
    Matcher call = CALL.matcher(line);
    if (x == null || !call.matches()) {
      Due.same(what, "a call of x", "something else");
      return;
    }
    shown.add(call.group(1));
    Object got = answer(call.group(1), numbers(call.group(2)));
    Matcher want = ANSWER.matcher(call.group(3) == null ? "" : call.group(3));
    if (want.matches()) {
      answers++;
      Due.same(what, want.group(1), String.valueOf(got));
    } else {
      Due.same(what, "no exception", got instanceof String ? got : "no exception");
    }
  }

  private static Object[] numbers(String text) {
    String[] parts = text.isBlank() ? new String[0] : text.split(",");
    Object[] numbers = new Object[parts.length];
    for (int i = 0; i < parts.length; i++) {
      numbers[i] = Integer.parseInt(parts[i].strip());
    }
    return numbers;
  }

  /** A number, null when the call answers nothing, or the name of what it throws. */
  private static Object answer(String name, Object[] arguments) throws IllegalAccessException {
    for (Method method : LockstepNet.class.getDeclaredMethods()) {
      boolean open = Modifier.isPublic(method.getModifiers());
      if (!open || !method.getName().equals(name)) continue;
      if (method.getParameterCount() != arguments.length) return "other arguments";
      try {
        return method.invoke(x, arguments);
      } catch (InvocationTargetException e) {
        return e.getCause().getClass().getSimpleName();
      }
    }
    return "no such call";
  }
}
