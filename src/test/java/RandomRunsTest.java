import java.util.Random;

/** Runs of up to 512 calls, each answer compared with that of the plain store; always the same runs. */
public final class RandomRunsTest {
  private static final int RUNS = 250, CALLS = 512, MOST_AT_ONCE = 12;
  private static final int[] ROOMS = {1, 2, 3, 5, 9, 64, 300, 65536};

  private final Random random;
  private final String run;
  private final GraphLog x = new GraphLog();
  private final PlainStore plain = new PlainStore();
  private final int spread;
  private final int style;
  private int calls;

  private RandomRunsTest(int seed) {
    random = new Random(seed);
    run = "run " + seed;
    style = seed % 5;
    spread = new int[] {3, 10, 24, 64}[random.nextInt(4)];
  }

  public static void main(String[] args) {
    int from = args.length > 0 ? Integer.parseInt(args[0]) : 0;
    int to = args.length > 1 ? Integer.parseInt(args[1]) : RUNS;
    for (int seed = from; seed < to; seed++) {
      new RandomRunsTest(seed).go();
    }
    Due.end();
  }

  private void go() {
    int room = ROOMS[random.nextInt(ROOMS.length)];
    same("begin(" + room + ")", () -> begun(room), () -> plain.begin(room));
    while (calls < CALLS - MOST_AT_ONCE - 10) {
      call();
    }
    for (int what = 0; what < 10; what++) {
      told(what);
    }
    Due.is(run + ", calls", Math.max(calls, CALLS), CALLS);
    // the one look that goes beyond 512 calls: the disk, as the run left it
    for (int place = 0; place < 24032; place++) {
      if (x.byteAt(place) != plain.byteAt(place)) {
        Due.is(run + ", byte " + place + " of the disk", x.byteAt(place), plain.byteAt(place));
      }
    }
  }

  private long begun(int room) {
    x.begin(room);
    return 0;
  }

  private void same(String what, Due.Call got, Due.Call want) {
    calls++;
    Due.is(run + ", " + what, Due.outcome(got), Due.outcome(want));
  }

  private void told(int what) {
    same("told(" + what + ")", () -> x.told(what), () -> plain.told(what));
  }

  private int node() {
    return random.nextInt(60) == 0 ? random.nextInt(200) - 70 : 64 / spread * random.nextInt(spread);
  }

  private int version() {
    return random.nextInt(20) == 0 ? random.nextInt(130) - 10 : random.nextInt(12) - 1;
  }

  private void call() {
    int kind = random.nextInt(100);
    if (kind < 66) {
      write(kind);
    } else if (kind < 90) {
      ask(kind, node(), node(), version(), version());
    } else {
      power();
    }
    if (plain.isOpen() == 0 && random.nextInt(4) > 0) {
      same("open()", x::open, plain::open);
    }
    if (plain.isOpen() == 0 && random.nextInt(12) == 0) {
      int room = ROOMS[random.nextInt(ROOMS.length)];
      same("begin(" + room + ")", () -> begun(room), () -> plain.begin(room));
    }
  }

  private void write(int kind) {
    int a = node(), b = node(), v = version();
    if (kind < 32) {
      boolean on = random.nextInt(3) > 0;
      same("edge(" + a + ", " + b + ", " + on + ")", () -> x.edge(a, b, on), () -> plain.edge(a, b, on));
    } else if (kind < 48) {
      same("version()", x::version, plain::version);
    } else if (kind < 56) {
      same("answer(" + v + ", " + a + ")", () -> x.answer(v, a), () -> plain.answer(v, a));
    } else if (kind < 61) {
      same("drop(" + v + ")", () -> x.drop(v), () -> plain.drop(v));
    } else {
      same("keep()", x::keep, plain::keep);
    }
  }

  private void ask(int kind, int a, int b, int v, int w) {
    if (kind < 69) {
      same("has(" + v + ", " + a + ", " + b + ")", () -> x.has(v, a, b) ? 1 : 0, () -> plain.has(v, a, b));
    } else if (kind < 72) {
      int g = random.nextInt(10) - 1;
      same("chunk(" + v + ", " + g + ")", () -> x.chunk(v, g), () -> plain.chunk(v, g));
    } else if (kind < 75) {
      int n = random.nextInt(15) - 1;
      same("named(" + n + ")", () -> x.named(n), () -> plain.named(n));
    } else if (kind < 77) {
      same("differ(" + v + ", " + w + ")", () -> x.differ(v, w), () -> plain.differ(v, w));
    } else if (kind < 80) {
      same("far(" + v + ", " + a + ", " + b + ")", () -> x.far(v, a, b), () -> plain.far(v, a, b));
    } else if (kind < 82) {
      same("usable(" + w + ")", () -> x.usable(w) ? 1 : 0, () -> plain.usable(w));
    } else if (kind < 84) {
      same("mask(" + w + ")", () -> x.mask(w), () -> plain.mask(w));
    } else if (kind < 85) {
      same("badAt()", x::badAt, plain::badAt);
    } else if (kind < 86) {
      same("isOpen()", () -> x.isOpen() ? 1 : 0, plain::isOpen);
    } else {
      told(random.nextInt(12) - 1);
    }
  }

  /** Some styles of runs leave the power on, so that the log grows to its end. */
  private void power() {
    int what = random.nextInt(style == 0 ? 400 : style == 1 ? 60 : 12);
    if (what < 3) {
      int n = random.nextInt(3) == 0 ? random.nextInt(2000) - 20 : random.nextInt(40);
      same("crash(" + n + ")", () -> x.crash(n), () -> plain.crash(n));
    } else if (what < 6) {
      same("open()", x::open, plain::open);
    } else if (what < 9) {
      pokes();
    }
  }

  /** A byte is turned, something is done, and mostly the byte is turned back. */
  private void pokes() {
    int place = random.nextInt(3) == 0 ? random.nextInt(32) : 32 + random.nextInt(style == 2 ? 24000 : 900);
    int mask = 1 << random.nextInt(9);
    same("poke(" + place + ", " + mask + ")", () -> x.poke(place, mask), () -> plain.poke(place, mask));
    same("badAt()", x::badAt, plain::badAt);
    int more = random.nextInt(4);
    for (int i = 0; i < more; i++) {
      if (random.nextInt(3) == 0) {
        same("open()", x::open, plain::open);
      }
      write(random.nextInt(66));
    }
    if (random.nextInt(8) > 0) {
      same("poke(" + place + ", " + mask + ")", () -> x.poke(place, mask), () -> plain.poke(place, mask));
    }
  }
}
