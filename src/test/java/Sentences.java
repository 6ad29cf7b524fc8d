import java.io.IOException;
import java.lang.reflect.InvocationTargetException;
import java.lang.reflect.Method;
import java.nio.file.Files;
import java.nio.file.Path;
import java.util.ArrayList;
import java.util.Comparator;
import java.util.List;
import java.util.Map;
import java.util.TreeMap;

/** Runs all tests of a class that say which words of the document they are of. */
final class Sentences {
  private static final Path DOCUMENT = Path.of("..", "shared", "DOC.md");

  private Sentences() {}

  static void run(Class<?> tests) {
    List<Method> found = new ArrayList<>();
    for (Method m : tests.getDeclaredMethods()) {
      if (m.isAnnotationPresent(Says.class)) {
        found.add(m);
      }
    }
    found.sort(Comparator.comparing(Method::getName));
    for (Method m : found) {
      runOne(m);
    }
    Due.about("");
    Due.is("there are tests", found.size() > 0, true);
    System.out.println(found.size() + " sentences have a test");
    noteWhatIsNotQuoted(found);
    Due.end();
  }

  private static void runOne(Method m) {
    Says says = m.getAnnotation(Says.class);
    Due.about(says.at() + " \"" + says.words() + "\": ");
    int before = Due.seen();
    try {
      m.invoke(null);
    } catch (InvocationTargetException e) {
      Due.is(m.getName(), "throws." + e.getCause(), "no exception");
    } catch (IllegalAccessException e) {
      Due.is(m.getName(), "cannot be called", "called");
    }
    Due.is(m.getName() + " compares answers", Due.seen() > before, true);
  }

  /** Notes, and no faults: a document that is worded anew does not make a right class wrong. */
  private static void noteWhatIsNotQuoted(List<Method> tests) {
    Map<String, String> document = read();
    Map<String, boolean[]> quoted = new TreeMap<>();
    for (Method m : tests) {
      Says says = m.getAnnotation(Says.class);
      String text = document.getOrDefault(says.at(), "");
      int at = text.indexOf(says.words());
      if (at < 0) {
        System.out.println("note: " + m.getName() + " quotes what does not stand under " + says.at());
        continue;
      }
      boolean[] marks = quoted.computeIfAbsent(says.at(), key -> new boolean[text.length()]);
      for (int i = 0; i < says.words().length(); i++) {
        marks[at + i] = true;
      }
    }
    quoted.remove("What it is");
    for (Map.Entry<String, boolean[]> entry : quoted.entrySet()) {
      String left = left(document.get(entry.getKey()), entry.getValue());
      if (!left.isEmpty()) {
        System.out.println("note: no test quotes of " + entry.getKey() + ":" + left);
      }
    }
  }

  private static String left(String text, boolean[] marks) {
    StringBuilder left = new StringBuilder();
    StringBuilder piece = new StringBuilder();
    for (int i = 0; i <= text.length(); i++) {
      if (i < text.length() && !marks[i]) {
        piece.append(text.charAt(i));
      } else {
        if (piece.chars().anyMatch(Character::isLetterOrDigit)) {
          left.append(" [").append(piece.toString().trim()).append(']');
        }
        piece.setLength(0);
      }
    }
    return left.toString();
  }

  /** The text below each heading, without signatures, frames and line ends. */
  private static Map<String, String> read() {
    Map<String, String> document = new TreeMap<>();
    String text;
    try {
      text = Files.readString(DOCUMENT);
    } catch (IOException e) {
      System.out.println("note: the document was not found");
      return document;
    }
    for (String section : text.split("\n## ")) {
      int end = Math.max(section.indexOf('\n'), 0);
      String heading = section.substring(0, end);
      String body = section.substring(end).replaceAll("```[a-z]*", " ").replaceAll("`[^`]*`:|={4,} [0-9]", " ");
      int colon = heading.indexOf(':');
      document.put(colon < 0 ? heading : heading.substring(0, colon), body.replaceAll("\\s+", " "));
    }
    return document;
  }
}
