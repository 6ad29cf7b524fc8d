/** All that can be seen of a store after some calls, which are made anew for each part that is looked at. */
final class Sight {
  /** Calls on a new store. */
  interface Script {
    void on(Store s);
  }

  private static final int NONE = GraphLog.NONE;
  private static final int DISK = 24032, NOW = 64 * 64, CHUNKS = 100 * 8, NAMED = 80, EACH = 100;
  private static final int FIRST = 12;
  private static final int ALL = FIRST + DISK + NOW + CHUNKS + NAMED + 3 * EACH;

  private Sight() {}

  static String[] of(Script script) {
    String[] seen = new String[ALL];
    int next = 0;
    while (next < ALL) {
      Store s = new Store();
      script.on(s);
      if (s.calls() > Store.MOST_CALLS - 20) {
        Due.is("calls that leave none to look with", s.calls(), 0);
        return seen;
      }
      for (; next < ALL && s.calls() < Store.MOST_CALLS; next++) {
        seen[next] = Due.outcome(look(s, next));
      }
    }
    return seen;
  }

  private static Due.Call look(Store s, int n) {
    int i = n;
    if (i < 10) {
      return () -> s.told(n);
    }
    if (i < FIRST) {
      return i == 10 ? s::isOpen : s::badAt;
    }
    i -= FIRST;
    if (i < DISK) {
      int place = i;
      return () -> s.byteAt(place);
    }
    i -= DISK;
    if (i < NOW) {
      int edge = i;
      return () -> s.has(NONE, edge / 64, edge % 64);
    }
    i -= NOW;
    if (i < CHUNKS) {
      int chunk = i;
      return () -> s.chunk(chunk / 8, chunk % 8);
    }
    i -= CHUNKS;
    if (i < NAMED) {
      int chunk = i;
      return () -> s.named(chunk);
    }
    int left = i - NAMED;
    int number = left % EACH;
    return left < EACH ? () -> s.usable(number) : left < 2 * EACH ? () -> s.mask(number) : () -> s.differ(NONE, number);
  }

  /** Behind the same calls more, all is the same. */
  private static String after(Script script) {
    Store s = new Store();
    script.on(s);
    StringBuilder text = new StringBuilder();
    Due.Call[] calls = {
      () -> s.edge(62, 61, true), s::version, () -> s.answer(0, 1), s::keep, () -> s.crash(5), s::open,
      () -> s.edge(61, 62, true), s::badAt, s::isOpen,
    };
    for (Due.Call call : calls) {
      text.append(Due.outcome(call)).append(' ');
      for (int what = 0; what < 10 && s.calls() < Store.MOST_CALLS - 20; what++) {
        int n = what;
        text.append(Due.outcome(() -> s.told(n))).append(' ');
      }
    }
    return text.toString();
  }

  static void alike(String what, Script one, Script other) {
    String[] a = of(one);
    String[] b = of(other);
    for (int i = 0; i < ALL; i++) {
      if (!String.valueOf(b[i]).equals(a[i])) {
        Due.is(what + ", sight " + i, String.valueOf(b[i]), String.valueOf(a[i]));
        return;
      }
    }
    Due.is(what + ", and behind it", after(other), after(one));
  }

  static void alikeThen(String what, Script script, Store.Call call) {
    alike(what, script, s -> {
      script.on(s);
      Due.outcome(() -> call.of(s));
    });
  }

  /** A call that is refused answers, or throws, what is due, and leaves all as it was. */
  static void refused(String what, Script script, Store.Call call, String due) {
    Store s = new Store();
    script.on(s);
    Due.is(what, Due.outcome(() -> call.of(s)), due);
    alikeThen(what + " changes nothing", script, call);
  }

  static void outside(String what, Script script, Store.Call call) {
    refused(what, script, call, "throws.IndexOutOfBoundsException");
  }

  static void full(String what, Script script, Store.Call call) {
    refused(what, script, call, "-3");
  }

  /** However a store was closed, a call that cares throws, and leaves all as it was. */
  static void closed(String what, Store.Call call) {
    Script used = s -> {
      s.edges(0, 1, 1, 2);
      s.version();
      s.answer(0, 0);
      s.keep();
    };
    Script crashed = s -> {
      used.on(s);
      s.crash(0);
    };
    Script noHead = s -> {
      used.on(s);
      s.poke(0, 1);
      s.poke(16, 1);
      s.open();
    };
    Script badRow = s -> {
      used.on(s);
      s.poke(50, 1);
      s.open();
    };
    String due = "throws.IllegalStateException";
    refused(what + ", closed by crash", crashed, call, due);
    refused(what + ", closed by open without a head", noHead, call, due);
    refused(what + ", closed by open with a row that is not right", badRow, call, due);
  }
}
