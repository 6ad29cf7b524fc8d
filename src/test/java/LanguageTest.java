import java.io.IOException;
import java.lang.reflect.Array;
import java.lang.reflect.Field;
import java.lang.reflect.Method;
import java.lang.reflect.Modifier;
import java.nio.file.Files;
import java.nio.file.Path;
import java.util.ArrayDeque;
import java.util.ArrayList;
import java.util.HashSet;
import java.util.IdentityHashMap;
import java.util.List;
import java.util.Map;
import java.util.Random;
import java.util.Set;
import java.util.TreeSet;
import java.util.regex.Matcher;
import java.util.regex.Pattern;

/** Rules of LANGUAGE.md that can be seen in the source, in the class, or by calls with any arguments. */
public final class LanguageTest {
  private static final Set<String> LIBRARY = Set.of("Arrays.fill", "Math.max", "Math.min", "Long.bitCount");
  private static final Set<String> THROWN = Set.of("IllegalStateException", "IllegalArgumentException",
      "IndexOutOfBoundsException", "NegativeArraySizeException");
  private static final String[] NOT_ALLOWED = {"try", "catch", "finally", "synchronized", "assert", "instanceof",
    "protected", "float", "double", "volatile", "native", "System", "Thread", "Object"};
  private static final int[] ANY = {0, 1, 2, 3, 7, 8, 15, 16, 31, 32, 62, 63, 64, 65, 99, 100, 101, 255, 256, 23999,
    24000, 24031, 24032, 65535, 65536, 65537, -1, -2, -3, -64, Integer.MAX_VALUE, Integer.MIN_VALUE};

  public static void main(String[] args) throws IOException, IllegalAccessException {
    String source = withoutRemarks(Files.readString(Path.of("src/main/java/GraphLog.java")));
    words(source);
    library(source);
    methodsAreShort(source);
    for (Class<?> type : classes()) {
      members(type);
    }
    whatIsMade();
    noCallThrowsByItself();
    Due.end();
  }

  private static String withoutRemarks(String source) {
    return source.replaceAll("(?s)/\\*.*?\\*/", "").replaceAll("//[^\n]*", "");
  }

  private static String withoutTexts(String source) {
    return source.replaceAll("\"[^\"\n]*\"", "\"\"");
  }

  private static List<Class<?>> classes() {
    List<Class<?>> classes = new ArrayList<>(List.of(GraphLog.class));
    classes.addAll(List.of(GraphLog.class.getDeclaredClasses()));
    return classes;
  }

  private static void words(String source) {
    String plain = withoutTexts(source);
    for (String word : NOT_ALLOWED) {
      Due.is("the word " + word, Pattern.compile("\\b" + word + "\\b").matcher(plain).find(), false);
    }
    Due.is("lambdas", plain.contains("->"), false);
    Due.is("method references", plain.contains("::"), false);
    Due.is("loops without an end", Pattern.compile("while *\\( *true|for *\\( *;|; *;").matcher(plain).find(), false);
    Due.is("a package line", Pattern.compile("(?m)^package\\b").matcher(plain).find(), false);
  }

  private static void library(String source) {
    String plain = withoutTexts(source);
    Set<String> imports = found("import ([\\w.*]+);", plain);
    Due.is("imports", imports.toString(), "[java.util.Arrays]");
    Set<String> used = found("\\b((?:Arrays|Math|Long|Integer|String|List)\\.\\w+)", plain);
    used.removeAll(LIBRARY);
    Due.is("the library", used.toString(), "[]");
    Set<String> thrown = found("\\bthrow\\b(.*)", plain);
    for (String exception : THROWN) {
      thrown.remove(" new " + exception + "(\"\");");
    }
    Due.is("what is thrown, but new exceptions with a written text", thrown.toString(), "[]");
  }

  private static Set<String> found(String pattern, String text) {
    Set<String> found = new TreeSet<>();
    Matcher m = Pattern.compile(pattern).matcher(text);
    while (m.find()) {
      found.add(m.group(1));
    }
    return found;
  }

  private static void methodsAreShort(String source) {
    int start = 0;
    String[] lines = source.split("\n", -1);
    for (int i = 0; i < lines.length; i++) {
      if (lines[i].matches(" {4}(?: {4})?\\S.*\\) (throws .*)?\\{")) {
        start = i;
      }
      if (lines[i].matches(" {4}(?: {4})?\\}")) {
        Due.is("lines of " + lines[start].trim(), i - start < 60, true);
      }
    }
  }

  private static void members(Class<?> type) {
    String name = type.getSimpleName();
    boolean nested = type != GraphLog.class;
    Set<String> face = new HashSet<>();
    for (Method m : GraphLog.class.getDeclaredMethods()) {
      if (Modifier.isPublic(m.getModifiers())) {
        face.add(m.getName());
      }
    }
    int fields = 0;
    for (Field f : type.getDeclaredFields()) {
      boolean isStatic = Modifier.isStatic(f.getModifiers());
      fields += isStatic ? 0 : 1;
      Due.is(name + "." + f.getName() + ", static and final", !isStatic || Modifier.isFinal(f.getModifiers()), true);
      Due.is(name + "." + f.getName() + ", static and a number", !isStatic || f.getType().isPrimitive(), true);
      Class<?> part = f.getType().isArray() ? f.getType().getComponentType() : f.getType();
      Due.is(name + "." + f.getName() + ", its type", part.isPrimitive() || classes().contains(part), true);
    }
    Due.is(name + ", fields", fields <= 20, true);
    for (Method m : type.getDeclaredMethods()) {
      Due.is(name + "." + m.getName() + ", parameters", m.getParameterCount() <= 7, true);
      boolean ofFace = !nested && Modifier.isPublic(m.getModifiers());
      Due.is(name + "." + m.getName() + " bears no name of the face", ofFace || !face.contains(m.getName()), true);
    }
    int modifiers = type.getModifiers();
    Due.is(name + " is of its kind", nested ? Modifier.isStatic(modifiers) && !Modifier.isPublic(modifiers)
        : Modifier.isPublic(modifiers) && Modifier.isFinal(modifiers), true);
    Due.is("classes", classes().size() <= 12, true);
  }

  /** One object's arrays are made with it: calls leave nothing behind. */
  private static void whatIsMade() throws IllegalAccessException {
    GraphLog x = new GraphLog();
    long[] first = count(x);
    Due.is("objects", first[0] < 100, true);
    Due.is("fields and elements", first[1] < 100_000, true);
    Random random = new Random(1);
    for (int i = 0; i < 500; i++) {
      Due.outcome(() -> call(x, random.nextInt(20), random));
    }
    long[] then = count(x);
    Due.is("objects behind 500 calls", then[0], first[0]);
    Due.is("fields and elements behind 500 calls", then[1], first[1]);
  }

  /** Objects and arrays, and the fields and elements that they have. */
  private static long[] count(Object start) throws IllegalAccessException {
    Map<Object, Boolean> seen = new IdentityHashMap<>();
    ArrayDeque<Object> left = new ArrayDeque<>(List.of(start));
    long parts = 0;
    while (!left.isEmpty()) {
      Object one = left.pop();
      if (seen.put(one, true) != null) {
        continue;
      }
      if (one.getClass().isArray()) {
        parts += Array.getLength(one);
        continue;
      }
      for (Field f : one.getClass().getDeclaredFields()) {
        if (!Modifier.isStatic(f.getModifiers())) {
          parts++;
          f.setAccessible(true);
          if (!f.getType().isPrimitive() && f.get(one) != null) {
            left.push(f.get(one));
          }
        }
      }
    }
    return new long[] {seen.size(), parts};
  }

  /** Also behind the 512th call, whose answer is free. */
  private static void noCallThrowsByItself() {
    for (int seed = 0; seed < 40; seed++) {
      Random random = new Random(seed);
      GraphLog x = new GraphLog();
      for (int i = 0; i < 4000; i++) {
        int kind = random.nextInt(seed % 2 == 0 ? 20 : 60);
        String outcome = Due.outcome(() -> call(x, kind, random));
        boolean ofBegin = outcome.contains("NegativeArraySize") || outcome.contains("IllegalArgument");
        boolean told = !outcome.startsWith("throws.") || THROWN.contains(outcome.substring(7)) && (!ofBegin || kind == 0);
        Due.is("call " + kind + " of run " + seed + ": " + outcome, told, true);
      }
    }
    GraphLog heads = new GraphLog();
    for (int i = 0; i < 5000; i++) {
      heads.edge(i % 64, i / 64 % 64, true);
      heads.keep();
    }
    Due.is("crash behind 10000 calls", Due.outcome(() -> Math.min(heads.crash(Integer.MAX_VALUE), 0)), "0");
    Due.is("open behind it", Due.outcome(() -> Math.min(heads.open(), 0) * 0), "0");
  }

  private static int any(Random random) {
    int kind = random.nextInt(4);
    return kind == 0 ? ANY[random.nextInt(ANY.length)] : kind == 1 ? random.nextInt() : random.nextInt(64);
  }

  private static long call(GraphLog x, int kind, Random random) {
    int a = any(random), b = any(random), c = any(random);
    try {
      return answer(x, kind, a, b, c);
    } catch (IllegalStateException closed) {
      // so that the next calls are of an open store, mostly
      return random.nextInt(3) == 0 ? rebegin(x) : x.open();
    }
  }

  private static long rebegin(GraphLog x) {
    x.begin(64);
    return 0;
  }

  private static long answer(GraphLog x, int kind, int a, int b, int c) {
    switch (kind) {
      case 0: x.begin(a); return 0;
      case 1: return x.answer(a, b);
      case 2: return x.drop(a);
      case 3: return x.keep();
      case 4: return x.crash(a);
      case 5: return x.open();
      case 6: return x.poke(a, b);
      case 7: return x.byteAt(a);
      case 8: return x.badAt();
      case 9: return x.has(a, b, c) ? 1 : 0;
      case 10: return x.chunk(a, b);
      case 11: return x.named(a);
      case 12: return x.differ(a, b);
      case 13: return x.far(a, b, c);
      case 14: return x.usable(a) ? 1 : 0;
      case 15: return x.mask(a);
      case 16: return x.told(a);
      case 17: return x.isOpen() ? 1 : 0;
      case 18: return x.version();
      default: return x.edge(a, b, c % 2 == 0);
    }
  }
}
