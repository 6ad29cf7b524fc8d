import java.util.ArrayList;
import java.util.List;
import java.util.Random;

/** Runs of at most 512 calls, each answer compared with that of the plain store; always the same runs. */
public final class RandomRunsTest {
  private static final int RUNS = 400, MOST_AT_ONCE = 12, LAST_LOOKS = 50, BY_HAND = 5;
  private static final int[] ROOMS = {1, 2, 3, 5, 9, 64, 300, 65536};

  private final Random random;
  private final String run;
  private final Store x = new Store();
  private final PlainStore plain = new PlainStore();
  private final int spread;
  private final int style;

  private RandomRunsTest(int seed) {
    random = new Random(seed);
    run = "run " + seed;
    style = seed % 6;
    spread = new int[] {3, 10, 24, 64}[random.nextInt(4)];
  }

  public static void main(String[] args) {
    int from = args.length > 0 ? Integer.parseInt(args[0]) : 0;
    int to = args.length > 1 ? Integer.parseInt(args[1]) : RUNS;
    for (int seed = from; seed < to; seed++) {
      new RandomRunsTest(seed).go();
    }
    Due.end();
  }

  private void go() {
    int room = ROOMS[random.nextInt(ROOMS.length)];
    same("begin(" + room + ")", () -> x.begin(room), () -> plain.begin(room));
    if (style == BY_HAND) {
      rowsByHand(room);
    }
    while (x.calls() < Store.MOST_CALLS - MOST_AT_ONCE - LAST_LOOKS - 11) {
      call();
    }
    int end = 32 + 24000;
    if (plain.isOpen() == 1) {
      end = 32 + plain.told(3);
    }
    for (int what = 0; what < 10; what++) {
      told(what);
    }
    for (int i = 0; i < LAST_LOOKS; i++) {
      int place = i % 5 == 0 ? random.nextInt(32) : random.nextInt(Math.min(end + 40, 24032));
      same("byteAt(" + place + ")", () -> x.byteAt(place), () -> plain.byteAt(place));
    }
  }

  private void same(String what, Due.Call got, Due.Call want) {
    Due.is(run + ", " + what, Due.outcome(got), Due.outcome(want));
  }

  private void told(int what) {
    same("told(" + what + ")", () -> x.told(what), () -> plain.told(what));
  }

  private int node() {
    return random.nextInt(60) == 0 ? random.nextInt(200) - 70 : 64 / spread * random.nextInt(spread);
  }

  private int version() {
    return random.nextInt(20) == 0 ? random.nextInt(130) - 10 : random.nextInt(12) - 1;
  }

  private void call() {
    int kind = random.nextInt(100);
    if (kind < 66) {
      write(kind);
    } else if (kind < 90) {
      ask(kind, node(), node(), version(), version());
    } else {
      power();
    }
    if (plain.isOpen() == 0 && random.nextInt(4) > 0) {
      same("open()", x::open, plain::open);
    }
    if (plain.isOpen() == 0 && random.nextInt(12) == 0) {
      int room = ROOMS[random.nextInt(ROOMS.length)];
      same("begin(" + room + ")", () -> x.begin(room), () -> plain.begin(room));
    }
  }

  private void write(int kind) {
    int a = node(), b = node(), v = version();
    if (kind < 32) {
      boolean on = random.nextInt(3) > 0;
      same("edge(" + a + ", " + b + ", " + on + ")", () -> x.edge(a, b, on), () -> plain.edge(a, b, on));
    } else if (kind < 48) {
      same("version()", x::version, plain::version);
    } else if (kind < 56) {
      same("answer(" + v + ", " + a + ")", () -> x.answer(v, a), () -> plain.answer(v, a));
    } else if (kind < 61) {
      same("drop(" + v + ")", () -> x.drop(v), () -> plain.drop(v));
    } else {
      same("keep()", x::keep, plain::keep);
    }
  }

  private void ask(int kind, int a, int b, int v, int w) {
    if (kind < 69) {
      same("has(" + v + ", " + a + ", " + b + ")", () -> x.has(v, a, b), () -> plain.has(v, a, b));
    } else if (kind < 72) {
      int g = random.nextInt(10) - 1;
      same("chunk(" + v + ", " + g + ")", () -> x.chunk(v, g), () -> plain.chunk(v, g));
    } else if (kind < 75) {
      int n = random.nextInt(15) - 1;
      same("named(" + n + ")", () -> x.named(n), () -> plain.named(n));
    } else if (kind < 77) {
      same("differ(" + v + ", " + w + ")", () -> x.differ(v, w), () -> plain.differ(v, w));
    } else if (kind < 80) {
      same("far(" + v + ", " + a + ", " + b + ")", () -> x.far(v, a, b), () -> plain.far(v, a, b));
    } else if (kind < 82) {
      same("usable(" + w + ")", () -> x.usable(w), () -> plain.usable(w));
    } else if (kind < 84) {
      same("mask(" + w + ")", () -> x.mask(w), () -> plain.mask(w));
    } else if (kind < 85) {
      same("badAt()", x::badAt, plain::badAt);
    } else if (kind < 86) {
      same("isOpen()", x::isOpen, plain::isOpen);
    } else {
      told(random.nextInt(12) - 1);
    }
  }

  /** Some styles of runs leave the power on, so that the log grows to its end. */
  private void power() {
    int what = random.nextInt(style == 0 ? 400 : style == 1 ? 60 : 12);
    if (what < 3) {
      int n = random.nextInt(3) == 0 ? random.nextInt(2000) - 20 : random.nextInt(40);
      same("crash(" + n + ")", () -> x.crash(n), () -> plain.crash(n));
    } else if (what < 6) {
      same("open()", x::open, plain::open);
    } else if (what < 9) {
      pokes();
    }
  }

  private void poke(int place, int mask) {
    same("poke(" + place + ", " + mask + ")", () -> x.poke(place, mask), () -> plain.poke(place, mask));
  }

  /** A byte is turned, something is done, and mostly the byte is turned back. */
  private void pokes() {
    int place = random.nextInt(3) == 0 ? random.nextInt(32) : 32 + random.nextInt(style == 2 ? 24000 : 900);
    int mask = 1 << random.nextInt(9);
    poke(place, mask);
    same("badAt()", x::badAt, plain::badAt);
    int more = random.nextInt(4);
    for (int i = 0; i < more; i++) {
      if (random.nextInt(3) == 0) {
        same("open()", x::open, plain::open);
      }
      write(random.nextInt(66));
    }
    if (random.nextInt(8) > 0) {
      poke(place, mask);
    }
  }

  /** Rows that no calls wrote, most of them right; what is behind the right ones is left out, and written over. */
  private void rowsByHand(int room) {
    Bytes log = new Bytes();
    List<Integer> ends = new ArrayList<>(List.of(0));
    int[] came = new int[6];
    int rows = 3 + random.nextInt(13);
    for (int i = 0; i < rows; i++) {
      addRow(log, i < 2 ? 1 : 1 + random.nextInt(5), came, room);
      ends.add(log.length());
    }
    put(32, log.log());
    put(16, Bytes.headBytes(1, log.length()));
    int said = plain.open();
    Due.is(run + ", open() of rows made by hand", x.open(), said);
    if (said < 0) {
      put(16, Bytes.headBytes(1, ends.get(-2 - said)));
      same("open() of those that are right", x::open, plain::open);
    }
  }

  private int oftenAs(int number) {
    return random.nextInt(25) == 0 ? number + random.nextInt(3) - 1 & 65535 : number;
  }

  private void addRow(Bytes log, int kind, int[] came, int room) {
    int chunks = Math.min(room, 4);
    int one = random.nextInt(Math.max(came[3], 1));
    if (kind == 1) {
      log.chunk(oftenAs(random.nextInt(chunks)), random.nextInt(2), 0, random.nextInt(2));
    } else if (kind == 2) {
      log.change(oftenAs(came[2]), 8 * random.nextInt(3), random.nextInt(2), oftenAs(1));
    } else if (kind == 3) {
      log.version(oftenAs(came[3]), random.nextInt(chunks), random.nextInt(chunks), random.nextInt(chunks));
    } else if (kind == 4) {
      log.answer(oftenAs(came[4]), one, oftenAs(63), random.nextInt());
    } else {
      log.drop(one);
    }
    came[kind]++;
  }

  private void put(int place, byte[] bytes) {
    for (int i = 0; i < bytes.length; i++) {
      int mask = (plain.byteAt(place + i) ^ bytes[i]) & 255;
      if (mask != 0) {
        poke(place + i, mask);
      }
    }
  }
}
