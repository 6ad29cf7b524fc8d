import java.io.IOException;
import java.lang.reflect.InvocationTargetException;
import java.lang.reflect.Method;
import java.lang.reflect.Modifier;
import java.nio.file.Files;
import java.nio.file.Path;
import java.util.HashMap;
import java.util.HashSet;
import java.util.List;
import java.util.Map;
import java.util.Set;
import java.util.regex.Matcher;
import java.util.regex.Pattern;

/** What README.md shows of the class is what the class answers: its calls are made, in their order. */
public final class ReadmeTest {
  private static final String START = "GraphLog x = new GraphLog();";
  private static final Pattern CALL =
      Pattern.compile("(?:(int|long|boolean) (\\w+) = )?x\\.(\\w+)\\(([^)]*)\\);\\s*//\\s*(.*)");
  /** An answer stands first in a remark, and goes on to a colon or to the end. */
  private static final Pattern ANSWER = Pattern.compile("(-?\\d+|true|false|throws \\w+)(:.*)?");

  private final Map<String, Object> names = new HashMap<>();
  private final Set<String> used = new HashSet<>();
  private GraphLog x;
  private int calls;

  public static void main(String[] args) throws IOException {
    new ReadmeTest().go(Files.readAllLines(Path.of("README.md")));
    Due.end();
  }

  private void go(List<String> lines) {
    names.put("GraphLog.NONE", GraphLog.NONE);
    names.put("true", true);
    names.put("false", false);
    boolean shown = false;
    for (String line : lines) {
      if (line.startsWith("```")) {
        shown = line.equals("```java");
      } else if (shown && line.startsWith(START)) {
        x = new GraphLog();
      } else if (shown && !line.isBlank()) {
        callOf(line);
      }
    }
    Due.is("calls of the object that is shown, at most", Math.max(calls, Store.MOST_CALLS), Store.MOST_CALLS);
    String text = String.join("\n", lines);
    for (Method m : GraphLog.class.getDeclaredMethods()) {
      if (Modifier.isPublic(m.getModifiers())) {
        Due.is(m.getName() + " is shown", used.contains(m.getName()), true);
        Due.is(m.getName() + " is in the table", text.contains("\n| `" + m.getName() + "("), true);
      }
    }
    Due.is("the constants", text.contains("`GraphLog.NONE` (" + GraphLog.NONE + ")")
        && text.contains("`GraphLog.FULL` (" + GraphLog.FULL + ")"), true);
  }

  private void callOf(String line) {
    Matcher call = CALL.matcher(line);
    if (!call.matches() || x == null) {
      Due.is("a line of README.md", line, "a call with a remark");
      return;
    }
    calls++;
    used.add(call.group(3));
    Method method = methodOf(call.group(3));
    Object got = answerOf(method, call.group(4).isBlank() ? new String[0] : call.group(4).split(", *"));
    if (call.group(2) != null) {
      names.put(call.group(2), got);
    }
    Matcher answer = ANSWER.matcher(call.group(5));
    boolean told = answer.matches();
    Due.is("an answer is told: " + line, told, method.getReturnType() != void.class);
    if (told) {
      Due.is(line, String.valueOf(got), answer.group(1));
    }
  }

  private static Method methodOf(String name) {
    for (Method m : GraphLog.class.getDeclaredMethods()) {
      if (m.getName().equals(name)) {
        return m;
      }
    }
    throw new IllegalArgumentException("README.md shows no call of the class: " + name);
  }

  private Object answerOf(Method method, String[] words) {
    Object[] values = new Object[words.length];
    for (int i = 0; i < words.length; i++) {
      values[i] = names.containsKey(words[i]) ? names.get(words[i]) : Integer.valueOf(words[i]);
    }
    try {
      return method.invoke(x, values);
    } catch (InvocationTargetException e) {
      return "throws " + e.getCause().getClass().getSimpleName();
    } catch (IllegalAccessException e) {
      return "cannot be called";
    }
  }
}
