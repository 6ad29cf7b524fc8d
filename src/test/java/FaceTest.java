import java.lang.reflect.Constructor;
import java.lang.reflect.Field;
import java.lang.reflect.Method;
import java.lang.reflect.Modifier;
import java.util.TreeSet;

/** The face has what the document lists, and nothing else that can be seen from outside. */
public final class FaceTest {
  private static final String[] FACE = {
    "NONE int -1", "FULL int -3", "GraphLog()",
    "begin(int):void NegativeArraySizeException IllegalArgumentException",
    "edge(int,int,boolean):int IllegalStateException IndexOutOfBoundsException",
    "version():int IllegalStateException",
    "answer(int,int):int IllegalStateException IndexOutOfBoundsException",
    "drop(int):int IllegalStateException IndexOutOfBoundsException",
    "keep():int IllegalStateException",
    "crash(int):int", "open():int",
    "poke(int,int):int IndexOutOfBoundsException",
    "byteAt(int):int IndexOutOfBoundsException",
    "badAt():int IllegalStateException",
    "has(int,int,int):boolean IllegalStateException IndexOutOfBoundsException",
    "chunk(int,int):int IllegalStateException IndexOutOfBoundsException",
    "named(int):int IllegalStateException IndexOutOfBoundsException",
    "differ(int,int):int IllegalStateException IndexOutOfBoundsException",
    "far(int,int,int):int IllegalStateException IndexOutOfBoundsException",
    "usable(int):boolean IllegalStateException IndexOutOfBoundsException",
    "mask(int):long IllegalStateException IndexOutOfBoundsException",
    "told(int):int IllegalStateException IndexOutOfBoundsException",
    "isOpen():boolean",
  };

  public static void main(String[] args) throws IllegalAccessException {
    TreeSet<String> due = new TreeSet<>(java.util.List.of(FACE));
    TreeSet<String> got = new TreeSet<>();
    for (Field f : GraphLog.class.getDeclaredFields()) {
      if (!Modifier.isPrivate(f.getModifiers())) {
        got.add(f.getName() + " " + f.getType() + " " + f.getInt(null));
        Due.is(f.getName() + " is a public constant", f.getModifiers(), Modifier.PUBLIC | Modifier.STATIC | Modifier.FINAL);
      }
    }
    for (Constructor<?> c : GraphLog.class.getDeclaredConstructors()) {
      got.add("GraphLog(" + types(c.getParameterTypes(), ",") + ")");
    }
    for (Method m : GraphLog.class.getDeclaredMethods()) {
      if (!Modifier.isPrivate(m.getModifiers())) {
        String thrown = types(m.getExceptionTypes(), " ");
        got.add(m.getName() + "(" + types(m.getParameterTypes(), ",") + "):" + m.getReturnType()
            + (thrown.isEmpty() ? "" : " " + thrown));
        Due.is(m.getName() + " is public", m.getModifiers(), Modifier.PUBLIC);
      }
    }
    Due.is("the face", got.toString(), due.toString());
    Due.is("the class is public and final", GraphLog.class.getModifiers(), Modifier.PUBLIC | Modifier.FINAL);
    Due.end();
  }

  private static String types(Class<?>[] types, String between) {
    StringBuilder text = new StringBuilder();
    for (Class<?> type : types) {
      text.append(text.length() == 0 ? "" : between).append(type.getSimpleName());
    }
    return text.toString();
  }
}
