/** Compares answers with those that are due, and prints each that is not. */
final class Due {
  /** A call whose answer, or whose exception, is looked at. */
  interface Call {
    long answer();
  }

  private static int wrong = 0;
  private static int seen = 0;
  private static String about = "";

  private Due() {}

  /** What the next answers are about is printed ahead of each that is not as due. */
  static void about(String words) {
    about = words;
  }

  static int seen() {
    return seen;
  }

  static void is(String what, long got, long want) {
    seen++;
    if (got != want) {
      wrong++;
      System.out.println(about + what + " answered " + got + ", due is " + want);
    }
  }

  static void is(String what, boolean got, boolean want) {
    is(what, got ? 1 : 0, want ? 1 : 0);
  }

  static void is(String what, String got, String want) {
    seen++;
    if (!got.equals(want)) {
      wrong++;
      System.out.println(about + what + " answered " + got + ", due is " + want);
    }
  }

  static void closed(String what, Call call) {
    is(what, outcome(call), "throws.IllegalStateException");
  }

  static void outside(String what, Call call) {
    is(what, outcome(call), "throws.IndexOutOfBoundsException");
  }

  /** The answer as a text, or the very class of what was thrown. */
  static String outcome(Call call) {
    try {
      return String.valueOf(call.answer());
    } catch (RuntimeException e) {
      return "throws." + e.getClass().getSimpleName();
    }
  }

  static void end() {
    System.out.println(wrong == 0 ? seen + " answers are as due" : wrong + " of " + seen + " answers are not as due");
    if (wrong != 0) {
      System.exit(1);
    }
  }
}
