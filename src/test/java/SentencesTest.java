/** The words of the promises 1 to 21, each with a test of its own, on objects of 512 calls at most. */
public final class SentencesTest {
  private static final int NONE = GraphLog.NONE, FULL = GraphLog.FULL;
  private static final int MAX = Integer.MAX_VALUE, MIN = Integer.MIN_VALUE;
  private static final int[] NO_NODES = {-1, 64, MAX, MIN};
  private static final int[] NO_PLACES = {-1, 24032, MAX, MIN};
  /** Behind use(): no such version for a call to which NONE is NOW. */
  private static final int[] NO_GRAPHS = {1, 2, 99, 100, -2, MAX, MIN};
  private static final byte[] ZEROS = {};

  private SentencesTest() {}

  public static void main(String[] args) {
    Sentences.run(SentencesTest.class);
  }

  /** Version 0 is there, 1 is dropped; answer 0 is usable, 1 is not; NOW has an edge more than version 0. */
  private static void use(Store s) {
    s.edges(0, 1, 1, 2);
    s.version();
    s.edge(1, 63, true);
    s.version();
    s.answer(0, 0);
    s.answer(1, 0);
    s.drop(1);
    s.keep();
  }

  private static Store used() {
    Store s = new Store();
    use(s);
    return s;
  }

  // 1: a new object

  @Says(at = "Promise 1", words = "As after begin(64).")
  static void newObject() {
    Sight.alike("new, and begun", s -> { }, s -> s.begin(64));
    Store s = new Store();
    Due.is("63 is of the room", s.named(63), 0);
    Due.outside("64 is not", () -> s.named(64));
    Due.is("the head", s.stands(0, Bytes.headBytes(0, 0)), true);
    Due.is("all that is told", s.toldAll(), "0 0 0 0 0 0 0 0 0 0");
  }

  // 2: begin

  @Says(at = "Promise 2", words = "All anew:")
  static void beginIsAllAnew() {
    Sight.alike("used, then begun", s -> s.begin(5), s -> {
      use(s);
      s.begin(5);
    });
    Sight.alike("poked, crashed, then begun", s -> s.begin(5), s -> {
      use(s);
      s.poke(0, 255);
      s.poke(20000, 255);
      s.crash(7);
      s.begin(5);
    });
    Sight.alike("full, then begun", s -> s.begin(5), s -> {
      s.fill(0, true);
      s.begin(5);
    });
  }

  @Says(at = "Promise 2", words = "the DISK is 0 but for the HEAD at 0, with TURN 0 and LENGTH 0;")
  static void beginClearsTheDisk() {
    for (int from = 0; from < 24032; from += 480) {
      Store s = new Store();
      use(s);
      s.keep();
      s.begin(7);
      byte[] head = Bytes.headBytes(0, 0);
      for (int place = from; place < Math.min(from + 480, 24032); place++) {
        Due.is("byte " + place, s.byteAt(place), place < 16 ? head[place] & 255 : 0);
      }
    }
    Store s = used();
    s.begin(7);
    Due.is("the turn behind it", s.keep(), 1);
    Due.is("crash leaves the head of begin", s.crash(MAX), 16);
    Due.is("which opens", s.open(), 0);
  }

  @Says(at = "Promise 2", words = "numbers 0 .. chunks - 1 are for CHUNKS (the room);")
  static void theRoom() {
    int[] rooms = {1, 2, 7, 8, 63, 64, 65, 65535, 65536};
    for (int room : rooms) {
      Store s = Store.of(room);
      Due.is("0 of " + room, s.named(0), 0);
      Due.is("the last of " + room, s.named(room - 1), 0);
      Due.outside("the room of " + room, () -> s.named(room));
      s.keep();
      s.open();
      Due.is("the last of " + room + ", opened", s.named(room - 1), 0);
      Due.outside("the room of " + room + ", opened", () -> s.named(room));
    }
    int[] eight = {0, 0, 8, 1, 16, 2, 24, 3, 32, 4, 40, 5, 48, 6, 56, 7};
    Due.is("eight chunks, a room of 8", Store.of(8, eight).version(), 0);
    Due.is("eight chunks, a room of 7", Store.of(7, eight).version(), FULL);
    Due.is("one chunk, a room of 1", Store.of(1).version(), 0);
    Due.is("two chunks, a room of 1", Store.of(1, 0, 0).version(), FULL);
  }

  @Says(at = "Promise 2", words = "the store is open, without VERSIONS.")
  static void beginOpens() {
    Store s = used();
    s.begin(64);
    Due.is("it is open", s.isOpen(), 1);
    Due.is("versions that are there", s.told(0), 0);
    Due.is("versions made", s.told(1), 0);
    Due.outside("version 0", () -> s.chunk(0, 0));
    Due.is("the next version", s.version(), 0);
    Due.is("the next answer", s.answer(0, 0), 0);
  }

  @Says(at = "Promise 2", words = "(It does not care.)")
  static void beginDoesNotCare() {
    Sight.alike("closed by crash, then begun", s -> s.begin(9), s -> {
      use(s);
      s.crash(3);
      s.begin(9);
    });
    Sight.alike("closed by open, then begun", s -> s.begin(9), s -> {
      use(s);
      s.poke(40, 1);
      s.open();
      s.begin(9);
    });
    Store s = used();
    s.crash(0);
    Due.is("closed, below 0", Due.outcome(() -> s.begin(-1)), "throws.NegativeArraySizeException");
    Due.is("closed, 0", Due.outcome(() -> s.begin(0)), "throws.IllegalArgumentException");
    Due.is("it is closed still", s.isOpen(), 0);
  }

  @Says(at = "Promise 2", words = "NegativeArraySize: below 0;")
  static void beginBelowZero() {
    int[] below = {-1, -2, -64, -65536, -65537, MIN};
    for (int n : below) {
      Sight.refused("begin(" + n + ")", SentencesTest::use, s -> s.begin(n), "throws.NegativeArraySizeException");
    }
  }

  @Says(at = "Promise 2", words = "IllegalArgument: 0, or above 65536.")
  static void beginOfAWrongRoom() {
    int[] wrong = {0, 65537, 65538, 131072, MAX};
    for (int n : wrong) {
      Sight.refused("begin(" + n + ")", SentencesTest::use, s -> s.begin(n), "throws.IllegalArgumentException");
    }
    Due.is("the least room", Due.outcome(() -> new Store().begin(1)), "0");
    Due.is("the greatest room", Due.outcome(() -> new Store().begin(65536)), "0");
  }

  // 3: edge

  @Says(at = "Promise 3", words = "An EDGE of NOW comes (on), or goes: 1;")
  static void edgesComeAndGo() {
    Store s = new Store();
    int[][] edges = {{0, 0}, {0, 63}, {63, 0}, {63, 63}, {7, 8}};
    for (int i = 0; i < edges.length; i++) {
      int a = edges[i][0], b = edges[i][1];
      Due.is("it comes, " + i, s.edge(a, b, true), 1);
      Due.is("it is there, " + i, s.has(NONE, a, b), 1);
      Due.is("so many edges, " + i, s.told(6), i + 1);
    }
    Due.is("it goes", s.edge(0, 63, false), 1);
    Due.is("it is not there", s.has(NONE, 0, 63), 0);
    Due.is("the others are", s.has(NONE, 63, 0) + s.has(NONE, 0, 0) + s.has(NONE, 63, 63), 3);
    Due.is("six changes", s.told(4) * 100 + s.told(3), 690);
  }

  @Says(at = "Promise 3", words = "0: it is so already (nothing is WRITTEN).")
  static void edgeThatIsSo() {
    Sight.refused("it is there", SentencesTest::use, s -> s.edge(0, 1, true), "0");
    Sight.refused("it is not there", SentencesTest::use, s -> s.edge(2, 1, false), "0");
    Sight.refused("none is there", s -> { }, s -> s.edge(63, 63, false), "0");
    Sight.refused("it is there, in a full log", s -> s.fill(0, true), s -> s.edge(0, 0, true), "0");
    Sight.refused("it is not there, in a full log", s -> s.fill(14, true), s -> s.edge(60, 60, false), "0");
  }

  @Says(at = "Promise 3", words = "IllegalState;")
  static void edgeClosed() {
    Sight.closed("edge", s -> s.edge(5, 6, true));
    Sight.closed("an edge that is so", s -> s.edge(5, 6, false));
  }

  @Says(at = "Promise 3", words = "IndexOutOfBounds: the nodes;")
  static void edgeOfNoNode() {
    for (int n : NO_NODES) {
      Sight.outside("from " + n, SentencesTest::use, s -> s.edge(n, 0, true));
      Sight.outside("to " + n, SentencesTest::use, s -> s.edge(0, n, false));
      Sight.outside("from and to " + n, SentencesTest::use, s -> s.edge(n, n, true));
    }
  }

  @Says(at = "Promise 3", words = "FULL: the LOG.")
  static void edgeOfAFullLog() {
    Store enough = new Store();
    enough.fill(15, true);
    Due.is("15 bytes are left", enough.edge(60, 60, true), 1);
    Due.is("the log is full then", enough.told(3), 24000);
    Due.is("and right", enough.badAt(), NONE);
    Store goes = new Store();
    goes.fill(15, true);
    Due.is("15 bytes are left, it goes", goes.edge(0, 0, false), 1);
    Sight.full("14 bytes are left", s -> s.fill(14, true), s -> s.edge(60, 60, true));
    Sight.full("14 bytes are left, it goes", s -> s.fill(14, true), s -> s.edge(0, 0, false));
    Sight.full("no byte is left", s -> s.fill(0, true), s -> s.edge(60, 60, true));
  }

  // 4: version

  @Says(at = "Promise 4", words = "NOW is a VERSION:")
  static void versionIsNow() {
    Store s = Store.of(64, 0, 1, 20, 40, 63, 0);
    s.version();
    Due.is("it differs by nothing", s.differ(0, NONE), 0);
    Due.is("it is there", s.told(0), 1);
    Due.is("its edges", s.has(0, 0, 1) + s.has(0, 20, 40) + s.has(0, 63, 0), 3);
    Due.is("NOW stays as it is", s.told(6), 3);
    s.edge(0, 1, false);
    Due.is("it does not go on with NOW", s.differ(0, NONE), 1);
    Store empty = new Store();
    Due.is("of no edges", empty.version(), 0);
    Due.is("has none", empty.has(0, 0, 0), 0);
  }

  @Says(at = "Promise 4", words = "the CHUNKS that are new are WRITTEN, by g, each once, then the VERSION: its number.")
  static void versionWritesWhatIsNew() {
    Store s = Store.of(64, 16, 3, 40, 3, 63, 63);
    Due.is("its number", s.version(), 0);
    Bytes due = new Bytes().change(0, 16, 3, 1).change(1, 40, 3, 1).change(2, 63, 63, 1);
    due.chunk(0).chunk(1, 8).chunk(2, 0, 0, 0, 0, 0, 0, 0, 1L << 63).version(0, 0, 0, 1, 0, 0, 1, 0, 2);
    Due.is("three chunks, by g, then the version", Due.outcome(() -> s.stands(32, due.log()) ? 1 : 0), "1");
    Due.is("and nothing else", s.told(3), due.length());
    Store again = Store.of(64, 16, 3);
    again.version();
    int length = again.told(3);
    Due.is("the same again", again.version(), 1);
    Due.is("no chunk is new", again.told(3), length + 28);
    again.edge(0, 3, true);
    again.edge(16, 3, false);
    again.version();
    Due.is("alike chunks of another g are not new", again.told(3), length + 28 + 30 + 28);
    again.drop(0);
    again.drop(1);
    again.drop(2);
    again.version();
    Due.is("what no version names is new", again.told(3), length + 28 + 30 + 28 + 36 + 2 * 76 + 28);
  }

  @Says(at = "Promise 4", words = "IllegalState;")
  static void versionClosed() {
    Sight.closed("version", s -> s.version());
  }

  @Says(at = "Promise 4", words = "FULL: 100 were made,")
  static void versionOfAHundred() {
    Store s = new Store();
    for (int v = 0; v < 100; v++) {
      Due.is("version " + v, s.version(), v);
    }
    Due.is("100 are there", s.told(0), 100);
    Due.is("one more", s.version(), FULL);
    Due.is("the last one can be used", s.answer(99, 0) + s.chunk(99, 7) + s.has(99, 0, 0), 0);
    s.keep();
    Due.is("100 open", s.open(), 100);
    Due.is("one more, opened", s.version(), FULL);
    Sight.full("100 were made", SentencesTest::hundredVersions, x -> x.version());
    Sight.full("100 were made, one is dropped", x -> {
      hundredVersions(x);
      x.drop(50);
    }, x -> x.version());
    Store kept = new Store();
    kept.version();
    kept.keep();
    for (int v = 1; v < 100; v++) {
      kept.version();
    }
    kept.open();
    Due.is("made are those that were kept", kept.version(), 1);
  }

  private static void hundredVersions(Store s) {
    for (int v = 0; v < 100; v++) {
      s.version();
    }
  }

  @Says(at = "Promise 4", words = "no room for CHUNKS,")
  static void versionWithoutRoom() {
    Sight.full("two chunks, a room of 1", s -> {
      s.begin(1);
      s.edge(0, 0, true);
    }, s -> s.version());
    Sight.full("a third chunk, a room of 2", s -> {
      s.begin(2);
      s.edge(0, 0, true);
      s.version();
      s.edge(8, 1, true);
    }, s -> s.version());
    Sight.full("two new ones, one number is free", s -> {
      s.begin(3);
      s.edge(0, 0, true);
      s.version();
      s.edges(8, 1, 16, 2);
    }, s -> s.version());
    Store alike = Store.of(2, 0, 5, 8, 5);
    Due.is("two that are alike take one number", alike.version(), 0);
    alike.edge(8, 5, false);
    Due.is("none that is new needs none", alike.version(), 1);
    alike.edge(8, 6, true);
    Due.is("no number is free", alike.version(), FULL);
    alike.drop(0);
    Due.is("none is free yet", alike.version(), FULL);
    alike.drop(1);
    alike.edge(0, 5, false);
    Due.is("two are free", alike.version(), 2);
    Due.is("they are taken again", alike.chunk(2, 0) * 10 + alike.chunk(2, 1), 1);
    Store exact = Store.of(3, 0, 0, 8, 1);
    Due.is("three chunks, a room of 3", exact.version(), 0);
  }

  @Says(at = "Promise 4", words = "the LOG.")
  static void versionOfAFullLog() {
    versionFits("no new chunk", 28, false);
    versionFits("one new chunk", 104, true);
    Store two = new Store();
    two.fill(195, true);
    two.edge(9, 2, true);
    Due.is("two new chunks, 180 bytes are left", two.version() > 0, true);
    Due.is("they fill the log", two.told(3), 24000);
    Sight.full("two new chunks, 179 bytes are left", s -> {
      s.fill(194, true);
      s.edge(9, 2, true);
    }, s -> s.version());
    Store alike = new Store();
    alike.fill(119, true, 2);
    alike.edge(9, 1, true);
    Due.is("two new ones that are alike, 104 bytes are left", alike.version() > 0, true);
    Due.is("they fill the log, too", alike.told(3), 24000);
    Sight.full("no byte is left", s -> s.fill(0, true), s -> s.version());
  }

  private static void versionFits(String what, int bytes, boolean changed) {
    Store enough = new Store();
    enough.fill(bytes, changed);
    int made = enough.told(1);
    Due.is(what + ", " + bytes + " bytes are left", enough.version(), made);
    Due.is(what + ", the log is full then", enough.told(3), 24000);
    Due.is(what + ", and right", enough.badAt(), NONE);
    Sight.full(what + ", a byte less is left", s -> s.fill(bytes - 1, changed), s -> s.version());
  }

  // 5: answer

  @Says(at = "Promise 5", words = "An ANSWER is worked out, and WRITTEN: its number.")
  static void answerIsWritten() {
    Store s = Store.of(64, 5, 6, 6, 63);
    s.version();
    int place = 32 + s.told(3);
    Due.is("its number", s.answer(0, 5), 0);
    Due.is("its row", s.stands(place, Bytes.rowBytes(place, 4, 0, 10, Bytes.answerText(0, 5, 3L << 5 | 1L << 63))), true);
    Due.is("and no other", s.told(3) + 32, place + 22);
    Due.is("the next number", s.answer(0, 5), 1);
    Due.is("its mask", s.mask(1), 3L << 5 | 1L << 63);
  }

  @Says(at = "Promise 5", words = "IllegalState;")
  static void answerClosed() {
    Sight.closed("answer", s -> s.answer(0, 0));
    Sight.closed("answer of no version", s -> s.answer(7, 0));
  }

  @Says(at = "Promise 5", words = "IndexOutOfBounds: the version, the node;")
  static void answerOfNone() {
    int[] none = {1, 2, 99, 100, 255, 256, -1, -2, MAX, MIN};
    for (int v : none) {
      Sight.outside("version " + v, SentencesTest::use, s -> s.answer(v, 0));
    }
    for (int n : NO_NODES) {
      Sight.outside("node " + n, SentencesTest::use, s -> s.answer(0, n));
    }
    Due.is("the last node", used().answer(0, 63), 2);
  }

  @Says(at = "Promise 5", words = "FULL: 100 were made,")
  static void answerOfAHundred() {
    Store s = new Store();
    hundredAnswers(s);
    Due.is("the last one", s.mask(99), 1L << 35);
    Due.is("it is usable", s.usable(99), 1);
    Due.is("one more", s.answer(0, 0), FULL);
    s.keep();
    Due.is("they open", s.open(), 1);
    Due.is("one more, opened", s.answer(0, 0), FULL);
    Sight.full("100 were made", SentencesTest::hundredAnswers, x -> x.answer(0, 0));
    Sight.full("100 were made, of another version", x -> {
      hundredAnswers(x);
      x.version();
      x.drop(0);
    }, x -> x.answer(1, 0));
  }

  private static void hundredAnswers(Store s) {
    s.version();
    for (int i = 0; i < 100; i++) {
      Due.is("answer " + i, s.answer(0, i % 64), i);
    }
  }

  @Says(at = "Promise 5", words = "the LOG.")
  static void answerOfAFullLog() {
    Store enough = new Store();
    enough.fill(22, false);
    int made = enough.told(2);
    Due.is("22 bytes are left", enough.answer(0, 63), made);
    Due.is("the log is full then", enough.told(3), 24000);
    Due.is("and right", enough.badAt(), NONE);
    Sight.full("21 bytes are left", s -> s.fill(21, false), s -> s.answer(0, 63));
    Sight.full("no byte is left", s -> s.fill(0, false), s -> s.answer(0, 63));
  }

  // 6: drop

  @Says(at = "Promise 6", words = "A VERSION is there no more: a DROP is WRITTEN:")
  static void dropIsWritten() {
    Store s = Store.of(64, 1, 1);
    s.version();
    s.version();
    s.answer(0, 1);
    int place = 32 + s.told(3);
    s.drop(0);
    Due.is("its row", s.stands(place, Bytes.rowBytes(place, 5, 0, 0, new byte[0])), true);
    Due.is("and no other", 32 + s.told(3), place + 12);
    Due.is("one is there", s.told(0), 1);
    Due.is("two were made", s.told(1), 2);
    Due.outside("it has no edges", () -> s.has(0, 1, 1));
    Due.outside("it has no chunks", () -> s.chunk(0, 0));
    Due.outside("it has no answers", () -> s.answer(0, 0));
    Due.outside("it differs from none", () -> s.differ(0, 1));
    Due.outside("nothing is far in it", () -> s.far(0, 0, 0));
    Due.outside("it goes once", () -> s.drop(0));
    Due.is("its answer is not usable", s.usable(0), 0);
    Due.is("NOW stays", s.has(NONE, 1, 1), 1);
    Due.is("the other stays", s.has(1, 1, 1), 1);
  }

  @Says(at = "Promise 6", words = "how many CHUNKS are NAMED by none any more.")
  static void dropCountsChunks() {
    Store s = Store.of(64, 0, 0, 8, 1, 16, 2, 24, 3, 32, 4, 40, 5, 48, 6, 56, 7);
    s.version();
    s.version();
    s.edge(0, 1, true);
    s.version();
    Due.is("all are named by another", s.drop(0), 0);
    Due.is("one is not", s.drop(1), 1);
    Due.is("eight", s.drop(2), 8);
    Due.is("none is named", s.told(7), 0);
    Store empty = new Store();
    empty.version();
    Due.is("eight that are one", empty.drop(0), 1);
    empty.version();
    empty.version();
    empty.drop(2);
    Due.is("those before do not count again", empty.drop(1), 1);
  }

  @Says(at = "Promise 6", words = "IllegalState;")
  static void dropClosed() {
    Sight.closed("drop", s -> s.drop(0));
    Sight.closed("drop of none", s -> s.drop(1));
  }

  @Says(at = "Promise 6", words = "IndexOutOfBounds;")
  static void dropOfNone() {
    int[] none = {1, 2, 99, 100, 256, 65536, -1, -2, MAX, MIN};
    for (int v : none) {
      Sight.outside("version " + v, SentencesTest::use, s -> s.drop(v));
    }
    Sight.outside("none was made", s -> { }, s -> s.drop(0));
  }

  @Says(at = "Promise 6", words = "FULL: the LOG.")
  static void dropOfAFullLog() {
    Store enough = new Store();
    enough.fill(12, false);
    Due.is("12 bytes are left", enough.drop(0), 8);
    Due.is("the log is full then", enough.told(3), 24000);
    Due.is("and right", enough.badAt(), NONE);
    Sight.full("11 bytes are left", s -> s.fill(11, false), s -> s.drop(0));
    Sight.full("no byte is left", s -> s.fill(0, false), s -> s.drop(0));
  }

  // 7: keep

  @Says(at = "Promise 7", words = "A HEAD is WRITTEN,")
  static void keepWritesAHead() {
    Store s = Store.of(64, 1, 1);
    s.keep();
    Due.is("at 16", s.stands(16, Bytes.headBytes(1, 15)), true);
    Due.is("that at 0 stays", s.stands(0, Bytes.headBytes(0, 0)), true);
    Due.is("16 bytes more were written", s.told(9), 31);
    Due.is("the log is as it was", s.told(3) + s.told(8), 16);
    Due.is("the last of them goes", s.crash(1), 1);
    Due.is("half a head is not right", s.open(), 0);
    Due.is("the older one is taken", s.told(5), 0);
    Store full = new Store();
    full.fill(0, false);
    Due.is("a full log is kept, too", full.keep(), 1);
  }

  @Says(at = "Promise 7", words = "with a TURN one more (of 32 bits),")
  static void turnsHave32Bits() {
    turnBehind(0, 1);
    turnBehind(1, 2);
    turnBehind(255, 256);
    turnBehind(0x7FFFFFFFL, 0x80000000L);
    turnBehind(0x80000000L, 0x80000001L);
    turnBehind(0xFFFFFFFEL, 0xFFFFFFFFL);
    turnBehind(0xFFFFFFFFL, 0);
    Store wraps = Store.of(64, 1, 1);
    wraps.turn(16, ZEROS, Bytes.headBytes(0xFFFFFFFFL, 0));
    wraps.open();
    wraps.edge(2, 2, true);
    Due.is("0 behind the greatest", wraps.keep(), 0);
    Due.is("1 behind it", wraps.keep(), 1);
    Due.is("both heads are new", wraps.stands(0, Bytes.headBytes(0, 15)) && wraps.stands(16, Bytes.headBytes(1, 15)), true);
    wraps.open();
    Due.is("open takes the later one", wraps.told(5), 1);
    Store old = new Store();
    old.turn(16, ZEROS, Bytes.headBytes(0xFFFFFFFFL, 0));
    old.open();
    old.edge(2, 2, true);
    old.keep();
    old.open();
    Due.is("the greatest turn is greater than 0", old.told(5) + old.told(3), -1);
    Store back = Store.of(64, 1, 1);
    back.keep();
    back.keep();
    back.crash(16);
    back.open();
    Due.is("one more than that of the head that is taken", back.keep(), 2);
  }

  private static void turnBehind(long turn, long next) {
    Store s = new Store();
    if (turn > 0) {
      s.turn(0, Bytes.headBytes(0, 0), Bytes.headBytes(turn, 0));
    }
    s.open();
    Due.is("behind " + turn, s.keep(), (int) next);
    Due.is("its head, behind " + turn, s.stands(next % 2 == 1 ? 16 : 0, Bytes.headBytes(next, 0)), true);
    Due.is("told, behind " + turn, s.told(5), (int) next);
  }

  @Says(at = "Promise 7", words = "and the LOG's LENGTH as it is:")
  static void keepTellsTheLength() {
    Store empty = new Store();
    empty.keep();
    Due.is("an empty log", empty.stands(16, Bytes.headBytes(1, 0)), true);
    Store s = Store.of(64, 1, 1);
    s.keep();
    Due.is("one row", s.stands(16, Bytes.headBytes(1, 15)), true);
    s.version();
    s.keep();
    Due.is("four rows", s.stands(0, Bytes.headBytes(2, 15 + 180)), true);
    s.keep();
    Due.is("the same again", s.stands(16, Bytes.headBytes(3, 15 + 180)), true);
    Store full = new Store();
    full.fill(0, true);
    full.keep();
    Due.is("a full log", full.stands(16, Bytes.headBytes(1, 24000)), true);
    Store back = Store.of(64, 1, 1);
    back.keep();
    back.edge(2, 2, true);
    back.open();
    back.keep();
    Due.is("what was not kept does not count", back.stands(0, Bytes.headBytes(2, 15)), true);
  }

  @Says(at = "Promise 7", words = "its TURN, as an int.")
  static void keepAnswersTheTurn() {
    Store s = new Store();
    for (int turn = 1; turn < 100; turn++) {
      Due.is("turn", s.keep(), turn);
    }
    Store high = new Store();
    high.turn(0, Bytes.headBytes(0, 0), Bytes.headBytes(0xFFFFFFFDL, 0));
    high.open();
    Due.is("below 0, as an int", high.keep(), -2);
    Due.is("and again", high.keep(), -1);
    Due.is("and 0", high.keep(), 0);
  }

  @Says(at = "Promise 7", words = "IllegalState.")
  static void keepClosed() {
    Sight.closed("keep", s -> s.keep());
  }

  // 8: crash

  @Says(at = "Promise 8", words = "The power goes: the last n bytes that were WRITTEN since the latest open() "
      + "(or the beginning) are what they were before that, the latest first")
  static void crashTakesBack() {
    // turn 1 at 16, turn 2 at 0, turn 3 at 16 again
    byte[][] at16 = {new byte[16], Bytes.headBytes(1, 15), Bytes.headBytes(3, 15)};
    byte[][] at0 = {Bytes.headBytes(0, 0), Bytes.headBytes(2, 15)};
    for (int n = 0; n <= 63; n += 3) {
      Store s = Store.of(64, 1, 1);
      s.keep();
      s.keep();
      s.keep();
      Due.is("bytes that go", s.crash(n), n);
      byte[] third = part(at16[2], at16[1], n);
      Due.is("that at 16 behind crash(" + n + ")", s.stands(16, n <= 16 ? third : n <= 32 ? at16[1] : part(at16[1], at16[0], n - 32)), true);
      Due.is("that at 0 behind crash(" + n + ")", s.stands(0, part(at0[1], at0[0], n - 16)), true);
      byte[] row = new Bytes().change(0, 1, 1, 1).log();
      Due.is("the row behind crash(" + n + ")", s.stands(32, part(row, new byte[15], n - 48)), true);
    }
    Store s = Store.of(64, 1, 1);
    s.keep();
    s.open();
    s.edge(2, 2, true);
    Due.is("what was written before open() stays", s.crash(1000), 15);
    Due.is("the row before", s.stands(32, new Bytes().change(0, 1, 1, 1).log()), true);
    Store begun = Store.of(64, 1, 1);
    begun.begin(64);
    begun.edge(2, 2, true);
    Due.is("what was written before begin does not count", begun.crash(1000), 15);
    Store poked = new Store();
    poked.poke(35, 0x5A);
    poked.edge(1, 1, true);
    poked.poke(36, 0xFF);
    poked.crash(15);
    Due.is("what it was before it was written", poked.byteAt(35) * 1000 + poked.byteAt(36), 0x5A * 1000);
    Store over = Store.of(64, 1, 1, 2, 2);
    over.open();
    over.edge(3, 3, true);
    over.crash(15);
    Due.is("an old row that was written over", over.stands(32, new Bytes().change(0, 1, 1, 1).log()), true);
  }

  /** The last n bytes are those of another row. */
  private static byte[] part(byte[] row, byte[] before, int n) {
    byte[] bytes = row.clone();
    for (int i = 0; i < Math.min(n, row.length); i++) {
      bytes[row.length - 1 - i] = before[row.length - 1 - i];
    }
    return bytes;
  }

  @Says(at = "Promise 8", words = "(all of them, if they are fewer;")
  static void crashOfMoreThanWritten() {
    int[] more = {31, 32, 1000, MAX};
    for (int n : more) {
      Store s = Store.of(64, 1, 1);
      s.keep();
      Due.is("crash(" + n + ")", s.crash(n), 31);
      Due.is("nothing is left of crash(" + n + ")", s.stands(16, new byte[31]), true);
      Due.is("the head of begin is, of crash(" + n + ")", s.stands(0, Bytes.headBytes(0, 0)), true);
    }
    Due.is("nothing was written", new Store().crash(5), 0);
    Store full = new Store();
    full.fill(0, false);
    full.keep();
    full.keep();
    Due.is("a full log and two heads", full.crash(MAX), 24032);
    Due.is("it is empty", full.stands(32, new byte[100]), true);
  }

  @Says(at = "Promise 8", words = "none, if n is below 0)")
  static void crashBelowZero() {
    int[] none = {0, -1, -15, MIN};
    for (int n : none) {
      Store s = Store.of(64, 1, 1);
      s.keep();
      Due.is("crash(" + n + ")", s.crash(n), 0);
      Due.is("it is closed, crash(" + n + ")", s.isOpen(), 0);
      Due.is("all stays, crash(" + n + ")", s.stands(32, new Bytes().change(0, 1, 1, 1).log()), true);
      Due.is("it opens, crash(" + n + ")", s.open(), 0);
      Due.is("with its row, crash(" + n + ")", s.told(8), 1);
    }
  }

  @Says(at = "Promise 8", words = "how many.")
  static void crashTellsHowMany() {
    for (int n = -2; n <= 20; n++) {
      Due.is("crash(" + n + ")", Store.of(64, 1, 1).crash(n), Math.max(0, Math.min(n, 15)));
    }
  }

  @Says(at = "Promise 8", words = "The store is CLOSED then.")
  static void crashCloses() {
    int[] ns = {-1, 0, 1, MAX};
    for (int n : ns) {
      Store s = used();
      s.crash(n);
      Due.is("isOpen", s.isOpen(), 0);
      Due.closed("told", () -> s.told(0));
      Due.closed("edge", () -> s.edge(5, 5, true));
    }
    Store empty = new Store();
    empty.crash(0);
    Due.is("a new one", empty.isOpen(), 0);
  }

  @Says(at = "Promise 8", words = "(It does not care; CLOSED: 0, nothing.)")
  static void crashOfAClosedStore() {
    Sight.refused("closed by crash", s -> {
      use(s);
      s.crash(3);
    }, s -> s.crash(5), "0");
    Sight.refused("closed by open", s -> {
      use(s);
      s.poke(3, 1);
      s.poke(19, 1);
      s.open();
    }, s -> s.crash(5), "0");
    Sight.refused("closed by open with a bad row", s -> {
      use(s);
      s.poke(40, 1);
      s.open();
    }, s -> s.crash(MAX), "0");
  }

  // 9: open

  @Says(at = "Promise 9", words = "The store is opened from the DISK,")
  static void openReadsTheDisk() {
    Store s = used();
    s.crash(0);
    s.open();
    Due.is("it is open", s.isOpen(), 1);
    Due.is("a version", s.has(0, 0, 1), 1);
    Due.is("nothing was written since", s.told(9), 0);
    // the disk, and not what the store knew
    Store other = Store.of(64, 1, 1);
    other.keep();
    other.turn(32, new Bytes().change(0, 1, 1, 1).log(), new Bytes().change(0, 2, 3, 1).log());
    other.open();
    Due.is("another edge", other.has(NONE, 1, 1) * 10 + other.has(NONE, 2, 3), 1);
    Store empty = new Store();
    Due.is("an empty log", empty.open(), 0);
    Due.is("all that is told of it", empty.toldAll(), "0 0 0 0 0 0 0 0 0 0");
  }

  @Says(at = "Promise 9", words = "also if it is open:")
  static void openOfAnOpenStore() {
    Store s = used();
    s.edge(9, 9, true);
    s.version();
    Due.is("one version", s.open(), 1);
    Due.is("what was not kept is not there", s.has(NONE, 9, 9), 0);
    Due.is("it is open", s.isOpen(), 1);
    Due.is("and once more", s.open(), 1);
    Sight.alike("opened twice", x -> {
      use(x);
      x.crash(0);
      x.open();
    }, x -> {
      use(x);
      x.open();
      x.open();
    });
  }

  @Says(at = "Promise 9", words = "how many VERSIONS are there;")
  static void openTellsVersions() {
    Store s = new Store();
    for (int v = 0; v < 5; v++) {
      s.keep();
      Due.is("versions", s.open(), v);
      s.version();
    }
    s.drop(0);
    s.drop(3);
    s.keep();
    Due.is("those that are dropped do not count", s.open(), 3);
    Due.is("as told", s.told(0) * 10 + s.told(1), 35);
  }

  @Says(at = "Promise 9", words = "NONE: no HEAD is RIGHT;")
  static void openWithoutAHead() {
    Store s = new Store();
    s.poke(0, 1);
    Due.is("one head that is not right, and none", s.open(), NONE);
    Store two = used();
    two.poke(15, 1);
    two.poke(31, 1);
    Due.is("two sums that are not", two.open(), NONE);
    two.poke(31, 1);
    Due.is("one is", two.open(), 1);
    Store length = new Store();
    length.turn(0, Bytes.headBytes(0, 0), Bytes.headBytes(2, 24001));
    length.turn(16, ZEROS, Bytes.headBytes(3, 0xFFFFFFFFL));
    Due.is("two lengths that are not", length.open(), NONE);
    Store half = Store.of(64);
    half.keep();
    half.keep();
    half.crash(20);
    Due.is("a half head goes, and the older one is there again", half.open(), 0);
    Store zeros = new Store();
    zeros.turn(0, Bytes.headBytes(0, 0), new byte[16]);
    Due.is("a disk of zeros", zeros.open(), NONE);
  }

  @Says(at = "Promise 9", words = "-2 less the number (from 0 on) of the first ROW that is not RIGHT.")
  static void openWithABadRow() {
    for (int row = 0; row < 6; row++) {
      Store s = Store.of(64, 1, 1, 2, 2, 3, 3, 4, 4, 5, 5, 6, 6);
      s.keep();
      s.poke(32 + 15 * row + 14, 1);
      Due.is("row " + row, s.open(), -2 - row);
      s.poke(32 + 15 * 5 + 14, 2);
      Due.is("the first of two, row " + row, s.open(), -2 - row);
    }
    Store full = new Store();
    full.fill(0, true);
    full.keep();
    int rows = full.told(8);
    full.poke(24031, 1);
    Due.is("the last row of a full log", full.open(), -2 - (rows - 1));
    Store hundred = Store.of(64);
    for (int i = 0; i < 150; i++) {
      hundred.edge(i % 64, i / 64, true);
    }
    hundred.keep();
    hundred.poke(32 + 15 * 149, 1);
    Due.is("row 149", hundred.open(), -151);
  }

  @Says(at = "Promise 9", words = "With these it is CLOSED then.")
  static void openClosesWithThese() {
    Store s = used();
    s.poke(40, 1);
    Due.is("a bad row", s.open(), -2);
    Due.is("it is closed", s.isOpen(), 0);
    Due.closed("told", () -> s.told(0));
    s.poke(40, 1);
    Due.is("it opens again", s.open(), 1);
    Due.is("it is open", s.isOpen(), 1);
    s.poke(0, 1);
    s.poke(16, 1);
    Due.is("no head", s.open(), NONE);
    Due.is("it is closed then, too", s.isOpen(), 0);
    Due.closed("edge", () -> s.edge(7, 7, true));
    s.poke(16, 1);
    Due.is("and opens", s.open(), 1);
  }

  @Says(at = "Promise 9", words = "(It does not care.)")
  static void openDoesNotCare() {
    Store s = used();
    s.crash(0);
    Due.is("closed by crash", s.open(), 1);
    s.poke(40, 1);
    s.open();
    Due.is("closed by open", s.open(), -2);
    s.poke(40, 1);
    Due.is("closed, and right again", s.open(), 1);
  }

  // 10: poke

  @Says(at = "Promise 10", words = "A byte of the DISK is turned (^) by a mask's lowest eight bits:")
  static void pokeTurns() {
    int[] masks = {0, 1, 0x80, 0xFF, 0x100, 0x1FF, -1, MIN, MAX, 0xFFFFFF00, 0x12345678};
    Store s = new Store();
    int value = 0;
    for (int mask : masks) {
      s.poke(5000, mask);
      value ^= mask & 255;
      Due.is("turned by " + mask, s.byteAt(5000), value);
      Due.is("its neighbours stay", s.byteAt(4999) + s.byteAt(5001), 0);
    }
    s.poke(0, 3);
    s.poke(24031, 255);
    Due.is("the first and the last", s.byteAt(0) * 1000 + s.byteAt(24031), 3255);
  }

  @Says(at = "Promise 10", words = "what it was.")
  static void pokeTellsWhatItWas() {
    Store s = new Store();
    Due.is("0", s.poke(100, 0xFF), 0);
    Due.is("255, without a sign", s.poke(100, 0x7F), 255);
    Due.is("128", s.poke(100, 0), 128);
    Due.is("and still", s.poke(100, 0x100), 128);
  }

  @Says(at = "Promise 10", words = "(It does not care.")
  static void pokeDoesNotCare() {
    Store s = used();
    s.crash(0);
    Due.is("closed", s.poke(24031, 7), 0);
    Due.is("it is turned", s.byteAt(24031), 7);
    Due.is("it stays closed", s.isOpen(), 0);
    Due.outside("closed, no place", () -> s.poke(24032, 7));
  }

  @Says(at = "Promise 10", words = "What the store knows stays.)")
  static void pokeLeavesWhatIsKnown() {
    Store s = used();
    String told = s.toldAll();
    for (int place = 0; place < 150; place++) {
      s.poke(place, 255);
    }
    Due.is("all that is told", s.toldAll(), told);
    Due.is("edges", s.has(0, 0, 1) + s.has(NONE, 1, 63), 2);
    Due.is("answers", s.mask(0), 7);
    Due.is("it is open", s.isOpen(), 1);
    Due.is("the next turn", s.keep(), 2);
    Due.is("the next version", s.version(), 2);
    Store length = Store.of(64, 1, 1);
    length.keep();
    length.poke(23, 15);
    length.edge(2, 2, true);
    Due.is("the log's length", length.told(3), 30);
    Due.is("bytes written", length.told(9), 46);
  }

  @Says(at = "Promise 10", words = "IndexOutOfBounds.")
  static void pokeOutside() {
    for (int place : NO_PLACES) {
      Sight.outside("poke(" + place + ")", SentencesTest::use, s -> s.poke(place, 255));
    }
  }

  // 11: byteAt

  @Says(at = "Promise 11", words = "A byte of the DISK, 0 .. 255.")
  static void byteOfTheDisk() {
    Store s = new Store();
    for (int i = 0; i < 200; i++) {
      int value = i < 100 ? i : 255 - (i - 100);
      s.poke(300 + i, value);
      Due.is("byte of " + value, s.byteAt(300 + i), value);
    }
    Due.is("the first", s.byteAt(0), 0);
    Due.is("the last", s.byteAt(24031), 0);
    byte[] head = Bytes.headBytes(0, 0);
    Due.is("the head's sum", s.byteAt(8) * 256 + s.byteAt(15), (head[8] & 255) * 256 + (head[15] & 255));
  }

  @Says(at = "Promise 11", words = "(It does not care.)")
  static void byteAtDoesNotCare() {
    Store s = Store.of(64, 1, 1);
    s.crash(0);
    Due.is("closed", s.byteAt(32), 2);
    Due.outside("closed, no place", () -> s.byteAt(-1));
    s.poke(0, 1);
    s.open();
    Due.is("closed by open", s.byteAt(35), 3);
  }

  @Says(at = "Promise 11", words = "IndexOutOfBounds.")
  static void byteAtOutside() {
    for (int place : NO_PLACES) {
      Sight.outside("byteAt(" + place + ")", SentencesTest::use, s -> s.byteAt(place));
    }
  }

  // 12: badAt

  @Says(at = "Promise 12", words = "The number of the first ROW of the LOG, as it is on the DISK, that is not RIGHT;")
  static void badAtTellsTheFirst() {
    for (int row = 0; row < 6; row++) {
      Store s = Store.of(64, 1, 1, 2, 2, 3, 3, 4, 4, 5, 5, 6, 6);
      s.poke(32 + 15 * row + 14, 1);
      Due.is("row " + row, s.badAt(), row);
      s.poke(32 + 15 * 5 + 6, 2);
      Due.is("the first of two, row " + row, s.badAt(), row);
      s.poke(32 + 15 * 5 + 6, 2);
      s.poke(32 + 15 * row + 14, 1);
      Due.is("right again, row " + row, s.badAt(), NONE);
    }
    Store s = used();
    s.edge(7, 7, true);
    s.poke(32 + s.told(3) - 1, 128);
    Due.is("a row that no head keeps", s.badAt(), s.told(8) - 1);
    Store full = new Store();
    full.fill(0, true);
    full.poke(24031, 1);
    Due.is("the last row of a full log", full.badAt(), full.told(8) - 1);
  }

  @Says(at = "Promise 12", words = "NONE.")
  static void badAtTellsNone() {
    Due.is("an empty log", new Store().badAt(), NONE);
    Store s = used();
    Due.is("a log", s.badAt(), NONE);
    s.poke(0, 255);
    s.poke(16, 255);
    Due.is("heads do not count", s.badAt(), NONE);
    s.poke(32 + s.told(3), 255);
    Due.is("nor what is behind the log", s.badAt(), NONE);
    Sight.refused("it changes nothing", SentencesTest::use, x -> x.badAt(), "-1");
    Sight.refused("nor with a bad row", x -> {
      use(x);
      x.poke(32, 1);
    }, x -> x.badAt(), "0");
    Store full = new Store();
    full.fill(0, true);
    Due.is("a full log", full.badAt(), NONE);
  }

  @Says(at = "Promise 12", words = "IllegalState.")
  static void badAtClosed() {
    Sight.closed("badAt", s -> s.badAt());
  }

  // 13: has

  @Says(at = "Promise 13", words = "Whether a VERSION (NONE: NOW) has an EDGE.")
  static void hasAnEdge() {
    Store s = Store.of(64, 0, 0, 63, 0, 0, 63, 7, 8);
    s.version();
    s.edge(7, 8, false);
    s.edge(8, 7, true);
    s.version();
    Due.is("version 0", "" + s.has(0, 0, 0) + s.has(0, 63, 0) + s.has(0, 0, 63) + s.has(0, 63, 63) + s.has(0, 7, 8) + s.has(0, 8, 7), "111010");
    Due.is("version 1", "" + s.has(1, 0, 0) + s.has(1, 7, 8) + s.has(1, 8, 7), "101");
    s.edge(0, 0, false);
    Due.is("NOW", "" + s.has(NONE, 0, 0) + s.has(NONE, 7, 8) + s.has(NONE, 8, 7), "001");
  }

  @Says(at = "Promise 13", words = "IllegalState;")
  static void hasClosed() {
    Sight.closed("has", s -> s.has(NONE, 0, 1));
    Sight.closed("has of none", s -> s.has(7, 64, 64));
  }

  @Says(at = "Promise 13", words = "IndexOutOfBounds: the version, the nodes.")
  static void hasOfNone() {
    for (int v : NO_GRAPHS) {
      Sight.outside("version " + v, SentencesTest::use, s -> s.has(v, 0, 0));
    }
    Store s = used();
    for (int n : NO_NODES) {
      Due.outside("from " + n, () -> s.has(0, n, 0));
      Due.outside("to " + n, () -> s.has(0, 0, n));
      Due.outside("NOW, from " + n, () -> s.has(NONE, n, 0));
      Due.outside("NOW, to " + n, () -> s.has(NONE, 0, n));
    }
  }

  // 14: chunk

  @Says(at = "Promise 14", words = "The number of CHUNK g of a VERSION.")
  static void chunkNumbers() {
    Store s = Store.of(64, 0, 0, 8, 1, 16, 2, 24, 3, 32, 4, 40, 5, 48, 6);
    s.version();
    s.edge(56, 6, true);
    s.edge(0, 5, true);
    s.version();
    for (int g = 0; g < 8; g++) {
      Due.is("version 0, chunk " + g, s.chunk(0, g), g);
      Due.is("version 1, chunk " + g, s.chunk(1, g), g == 0 ? 8 : g == 7 ? 6 : g);
    }
  }

  @Says(at = "Promise 14", words = "IllegalState;")
  static void chunkClosed() {
    Sight.closed("chunk", s -> s.chunk(0, 0));
    Sight.closed("chunk of none", s -> s.chunk(7, 8));
  }

  @Says(at = "Promise 14", words = "IndexOutOfBounds: the version, g is not 0 .. 7.")
  static void chunkOfNone() {
    int[] wrong = {-1, 8, 9, 64, MAX, MIN};
    for (int g : wrong) {
      Sight.outside("g " + g, SentencesTest::use, s -> s.chunk(0, g));
    }
    int[] none = {1, 2, 99, 100, -1, -2, MAX, MIN};
    for (int v : none) {
      Sight.outside("version " + v, SentencesTest::use, s -> s.chunk(v, 0));
    }
    Due.is("g of 0 and 7", used().chunk(0, 0) + used().chunk(0, 7), 1);
  }

  // 15: named

  @Says(at = "Promise 15", words = "By how many VERSIONS that are there a CHUNK is NAMED")
  static void namedByHowMany() {
    Store s = Store.of(64, 0, 0);
    Due.is("no version", s.named(0), 0);
    for (int v = 0; v < 100; v++) {
      s.version();
    }
    Due.is("by 100", s.named(0), 100);
    s.drop(0);
    s.drop(99);
    Due.is("by 98", s.named(0), 98);
    Due.is("a number that no chunk has", s.named(2), 0);
    s.keep();
    s.open();
    Due.is("by 98, opened", s.named(0), 98);
  }

  @Says(at = "Promise 15", words = "(each counts once).")
  static void namedCountsOnce() {
    Store s = Store.of(64, 0, 0);
    s.version();
    Due.is("seven chunks of one version that are one", s.named(1), 1);
    s.version();
    Due.is("of two versions", s.named(1), 2);
    s.drop(0);
    Due.is("of one", s.named(1), 1);
    s.keep();
    s.open();
    Due.is("opened", s.named(1), 1);
    Due.is("all go", s.drop(1), 2);
    Due.is("of none", s.named(1), 0);
  }

  @Says(at = "Promise 15", words = "IllegalState;")
  static void namedClosed() {
    Sight.closed("named", s -> s.named(0));
    Sight.closed("named of none", s -> s.named(64));
  }

  @Says(at = "Promise 15", words = "IndexOutOfBounds: a number below 0, or not below the room.")
  static void namedOutside() {
    int[] wrong = {-1, 64, 65, MAX, MIN};
    for (int n : wrong) {
      Sight.outside("named(" + n + ")", SentencesTest::use, s -> s.named(n));
    }
    Due.is("the last", used().named(63), 0);
    Store wide = Store.of(65536);
    Due.is("the last of the greatest room", wide.named(65535), 0);
    Due.outside("behind the greatest room", () -> wide.named(65536));
    Store one = Store.of(1);
    Due.is("the least room", one.named(0), 0);
    Due.outside("behind the least room", () -> one.named(1));
  }

  // 16: differ

  @Says(at = "Promise 16", words = "How many EDGES one of two VERSIONS (NONE: NOW) has and the other has not.")
  static void differByEdges() {
    Store s = Store.of(64, 0, 0, 63, 63, 0, 63);
    s.version();
    s.edge(0, 0, false);
    s.edges(63, 0, 5, 5, 6, 6);
    s.version();
    s.edge(63, 63, false);
    Due.is("both ways", s.differ(0, 1) * 10 + s.differ(1, 0), 44);
    Due.is("with itself", s.differ(0, 0) + s.differ(1, 1) + s.differ(NONE, NONE), 0);
    Due.is("with NOW", s.differ(0, NONE) * 10 + s.differ(NONE, 0), 55);
    Due.is("NOW and the later one", s.differ(1, NONE) * 10 + s.differ(NONE, 1), 11);
    Store full = new Store();
    full.version();
    for (int i = 0; i < 400; i++) {
      full.edge(i % 64, 63 - i / 64, true);
    }
    Due.is("400 edges", full.differ(0, NONE), 400);
  }

  @Says(at = "Promise 16", words = "IllegalState;")
  static void differClosed() {
    Sight.closed("differ", s -> s.differ(NONE, 0));
    Sight.closed("differ of none", s -> s.differ(7, 8));
  }

  @Says(at = "Promise 16", words = "IndexOutOfBounds.")
  static void differOfNone() {
    for (int v : NO_GRAPHS) {
      Sight.outside("one " + v, SentencesTest::use, s -> s.differ(v, 0));
      Sight.outside("other " + v, SentencesTest::use, s -> s.differ(NONE, v));
      Sight.outside("both " + v, SentencesTest::use, s -> s.differ(v, v));
    }
  }

  // 17: far

  @Says(at = "Promise 17", words = "The least number of EDGES by which one comes from a to b in a VERSION (NONE: NOW);")
  static void farByEdges() {
    Store s = Store.of(64, 0, 1, 1, 2, 2, 63, 0, 10, 10, 63, 63, 0, 5, 5);
    s.version();
    s.edge(0, 10, false);
    Due.is("the shorter way", s.far(0, 0, 63), 2);
    Due.is("NOW has the longer one", s.far(NONE, 0, 63), 3);
    Due.is("one edge", s.far(0, 63, 0), 1);
    Due.is("to itself", s.far(0, 0, 0), 0);
    Due.is("to itself by an edge", s.far(0, 5, 5), 0);
    Due.is("to itself without one", s.far(0, 40, 40), 0);
    Due.is("round", s.far(0, 1, 0), 3);
    Store line = new Store();
    for (int i = 0; i < 63; i++) {
      line.edge(i, i + 1, true);
    }
    for (int i = 0; i < 64; i++) {
      Due.is("by all nodes, " + i, line.far(NONE, 0, i), i);
    }
  }

  @Says(at = "Promise 17", words = "NONE: one does not.")
  static void farAway() {
    Store s = Store.of(64, 0, 1, 1, 0, 3, 0);
    Due.is("from a ring", s.far(NONE, 0, 3), NONE);
    Due.is("from a node without edges", s.far(NONE, 2, 0), NONE);
    Due.is("to a node without edges", s.far(NONE, 0, 63), NONE);
    Due.is("edges have a way", s.far(NONE, 3, 1), 2);
    Store line = new Store();
    for (int i = 0; i < 62; i++) {
      line.edge(i, i + 1, true);
    }
    Due.is("behind a line's end", line.far(NONE, 0, 63), NONE);
    Due.is("the line's end", line.far(NONE, 0, 62), 62);
  }

  @Says(at = "Promise 17", words = "IllegalState;")
  static void farClosed() {
    Sight.closed("far", s -> s.far(NONE, 0, 0));
    Sight.closed("far of none", s -> s.far(7, 64, 64));
  }

  @Says(at = "Promise 17", words = "IndexOutOfBounds: the version, the nodes.")
  static void farOfNone() {
    for (int v : NO_GRAPHS) {
      Sight.outside("version " + v, SentencesTest::use, s -> s.far(v, 0, 0));
    }
    Store s = used();
    for (int n : NO_NODES) {
      Due.outside("from " + n, () -> s.far(0, n, 0));
      Due.outside("to " + n, () -> s.far(0, 0, n));
      Due.outside("NOW, from " + n, () -> s.far(NONE, n, 0));
      Due.outside("NOW, to " + n, () -> s.far(NONE, 0, n));
      Due.outside("from and to " + n, () -> s.far(NONE, n, n));
    }
  }

  // 18: usable

  @Says(at = "Promise 18", words = "Whether an ANSWER can be used: its VERSION is there.")
  static void usableAnswers() {
    Store s = Store.of(64, 0, 1);
    s.version();
    s.version();
    s.answer(1, 0);
    s.answer(0, 0);
    s.answer(1, 1);
    Due.is("both are there", "" + s.usable(0) + s.usable(1) + s.usable(2), "111");
    s.edge(0, 1, false);
    Due.is("NOW does not count", "" + s.usable(0) + s.usable(1) + s.usable(2), "111");
    s.drop(1);
    Due.is("one is there", "" + s.usable(0) + s.usable(1) + s.usable(2), "010");
    s.version();
    Due.is("another does not help", "" + s.usable(0) + s.usable(1) + s.usable(2), "010");
    s.keep();
    s.open();
    Due.is("opened", "" + s.usable(0) + s.usable(1) + s.usable(2), "010");
  }

  @Says(at = "Promise 18", words = "IllegalState;")
  static void usableClosed() {
    Sight.closed("usable", s -> s.usable(0));
    Sight.closed("usable of none", s -> s.usable(-1));
  }

  @Says(at = "Promise 18", words = "IndexOutOfBounds.")
  static void usableOfNone() {
    int[] none = {-1, 2, 99, 100, MAX, MIN};
    for (int n : none) {
      Sight.outside("usable(" + n + ")", SentencesTest::use, s -> s.usable(n));
    }
    Sight.outside("there is none", s -> { }, s -> s.usable(0));
    Store s = new Store();
    hundredAnswers(s);
    Due.outside("behind the last one", () -> s.usable(100));
  }

  // 19: mask

  @Says(at = "Promise 19", words = "The MASK of an ANSWER (usable or not).")
  static void masks() {
    Store s = used();
    Due.is("usable", s.mask(0), 7);
    Due.is("not usable", s.mask(1), 1L << 63 | 7L);
    s.keep();
    s.open();
    Due.is("opened, usable", s.mask(0), 7);
    Due.is("opened, not usable", s.mask(1), 1L << 63 | 7L);
    s.drop(0);
    Due.is("dropped now", s.mask(0), 7);
  }

  @Says(at = "Promise 19", words = "IllegalState;")
  static void maskClosed() {
    Sight.closed("mask", s -> s.mask(0));
    Sight.closed("mask of none", s -> s.mask(-1));
  }

  @Says(at = "Promise 19", words = "IndexOutOfBounds.")
  static void maskOfNone() {
    int[] none = {-1, 2, 99, 100, MAX, MIN};
    for (int n : none) {
      Sight.outside("mask(" + n + ")", SentencesTest::use, s -> s.mask(n));
    }
    Sight.outside("there is none", s -> { }, s -> s.mask(0));
    Store s = new Store();
    hundredAnswers(s);
    Due.outside("behind the last one", () -> s.mask(100));
  }

  // 20: told

  @Says(at = "Promise 20", words = "What = 0 VERSIONS that are there,")
  static void toldVersions() {
    Store s = new Store();
    Due.is("none", s.told(0), 0);
    s.version();
    s.version();
    s.version();
    Due.is("three", s.told(0), 3);
    s.drop(1);
    Due.is("two", s.told(0), 2);
    s.keep();
    s.drop(0);
    s.open();
    Due.is("two, opened", s.told(0), 2);
    s.drop(0);
    s.drop(2);
    Due.is("none again", s.told(0), 0);
  }

  @Says(at = "Promise 20", words = "1 made so far,")
  static void toldMade() {
    Store s = new Store();
    Due.is("none", s.told(1), 0);
    s.version();
    s.version();
    s.drop(1);
    s.drop(0);
    Due.is("two, though none is there", s.told(1), 2);
    s.keep();
    s.version();
    s.open();
    Due.is("two, opened", s.told(1), 2);
    Store all = new Store();
    hundredVersions(all);
    all.version();
    Due.is("100", all.told(1), 100);
  }

  @Says(at = "Promise 20", words = "2 ANSWERS made so far,")
  static void toldAnswers() {
    Store s = new Store();
    s.version();
    Due.is("none", s.told(2), 0);
    s.answer(0, 0);
    s.answer(0, 0);
    s.drop(0);
    Due.is("two, though none is usable", s.told(2), 2);
    s.keep();
    s.open();
    Due.is("two, opened", s.told(2), 2);
    Store all = new Store();
    hundredAnswers(all);
    all.answer(0, 0);
    Due.is("100", all.told(2), 100);
  }

  @Says(at = "Promise 20", words = "3 LENGTH of the LOG,")
  static void toldLength() {
    Store s = new Store();
    Due.is("empty", s.told(3), 0);
    s.edge(1, 1, true);
    Due.is("a change", s.told(3), 15);
    s.version();
    Due.is("two chunks and a version", s.told(3), 15 + 180);
    s.answer(0, 0);
    Due.is("an answer", s.told(3), 195 + 22);
    s.keep();
    Due.is("a head is not of it", s.told(3), 217);
    s.drop(0);
    Due.is("a drop", s.told(3), 229);
    s.open();
    Due.is("as it was kept", s.told(3), 217);
    s.poke(23, 255);
    s.poke(32 + 217, 255);
    Due.is("as it is known", s.told(3), 217);
  }

  @Says(at = "Promise 20", words = "4 CHANGES so far,")
  static void toldChanges() {
    Store s = Store.of(64, 1, 1, 2, 2);
    s.edge(1, 1, true);
    Due.is("two of three calls", s.told(4), 2);
    s.edge(1, 1, false);
    Due.is("one that goes counts", s.told(4), 3);
    s.version();
    s.keep();
    Due.is("other rows do not", s.told(4), 3);
    s.edge(1, 1, true);
    s.open();
    Due.is("as it was kept", s.told(4), 3);
  }

  @Says(at = "Promise 20", words = "5 TURN of the latest HEAD (as an int),")
  static void toldTurn() {
    Store s = new Store();
    Due.is("at first", s.told(5), 0);
    s.keep();
    s.keep();
    Due.is("two heads", s.told(5), 2);
    s.poke(0, 255);
    Due.is("as it is known", s.told(5), 2);
    s.open();
    Due.is("that of the head that is taken", s.told(5), 1);
    Store high = new Store();
    high.turn(0, Bytes.headBytes(0, 0), Bytes.headBytes(0xFFFFFFFFL, 0));
    high.open();
    Due.is("as an int", high.told(5), -1);
    Store least = new Store();
    least.turn(0, Bytes.headBytes(0, 0), Bytes.headBytes(0x80000000L, 0));
    least.open();
    Due.is("the least int", least.told(5), MIN);
  }

  @Says(at = "Promise 20", words = "6 EDGES of NOW,")
  static void toldEdges() {
    Store s = Store.of(64, 0, 0, 63, 63, 0, 63);
    Due.is("three", s.told(6), 3);
    s.edge(0, 0, false);
    Due.is("two", s.told(6), 2);
    s.version();
    s.edge(63, 63, false);
    s.edge(0, 63, false);
    Due.is("none, though a version has two", s.told(6), 0);
    Store many = new Store();
    for (int i = 0; i < 500; i++) {
      many.edge(i % 64, i / 64, true);
    }
    Due.is("500", many.told(6), 500);
  }

  @Says(at = "Promise 20", words = "7 CHUNKS that are NAMED,")
  static void toldNamed() {
    Store s = Store.of(64, 0, 0);
    Due.is("none", s.told(7), 0);
    s.version();
    s.version();
    Due.is("two, of two versions", s.told(7), 2);
    s.edge(8, 1, true);
    s.version();
    Due.is("three", s.told(7), 3);
    s.drop(2);
    Due.is("two again", s.told(7), 2);
    s.drop(0);
    Due.is("two still", s.told(7), 2);
    s.drop(1);
    Due.is("none again", s.told(7), 0);
  }

  @Says(at = "Promise 20", words = "8 ROWS of the LOG,")
  static void toldRows() {
    Store s = new Store();
    Due.is("none", s.told(8), 0);
    s.edge(0, 0, true);
    s.edge(0, 0, true);
    Due.is("a change", s.told(8), 1);
    s.version();
    Due.is("two chunks and a version", s.told(8), 4);
    s.answer(0, 0);
    s.drop(0);
    Due.is("an answer and a drop", s.told(8), 6);
    s.keep();
    Due.is("a head is no row", s.told(8), 6);
    s.version();
    s.open();
    Due.is("as it was kept", s.told(8), 6);
  }

  @Says(at = "Promise 20", words = "9 bytes WRITTEN since the latest open() (or the beginning).")
  static void toldWritten() {
    Store s = new Store();
    Due.is("the head of the beginning does not count", s.told(9), 0);
    s.edge(0, 0, true);
    Due.is("a row", s.told(9), 15);
    s.keep();
    s.keep();
    Due.is("two heads", s.told(9), 47);
    s.poke(100, 1);
    s.edge(0, 0, true);
    Due.is("neither poke nor what is so already", s.told(9), 47);
    s.open();
    Due.is("open", s.told(9), 0);
    s.keep();
    Due.is("a head since", s.told(9), 16);
    s.begin(64);
    Due.is("begin", s.told(9), 0);
    s.version();
    s.crash(1);
    s.open();
    Due.is("crash and open", s.told(9), 0);
  }

  @Says(at = "Promise 20", words = "IllegalState;")
  static void toldClosed() {
    for (int what = -1; what <= 10; what++) {
      int n = what;
      Sight.closed("told(" + n + ")", s -> s.told(n));
    }
  }

  @Says(at = "Promise 20", words = "IndexOutOfBounds: another what.")
  static void toldOfAnother() {
    int[] wrong = {-1, 10, 11, MAX, MIN};
    for (int n : wrong) {
      Sight.outside("told(" + n + ")", SentencesTest::use, s -> s.told(n));
    }
    Store s = used();
    for (int what = 0; what <= 9; what++) {
      int n = what;
      Due.is("told(" + what + ") is told", Due.outcome(() -> s.told(n)).startsWith("throws"), false);
    }
  }

  // 21: isOpen

  @Says(at = "Promise 21", words = "Whether the store is open.")
  static void isItOpen() {
    Store s = new Store();
    Due.is("new", s.isOpen(), 1);
    s.keep();
    Due.is("kept", s.isOpen(), 1);
    s.crash(-1);
    Due.is("crashed", s.isOpen(), 0);
    s.crash(-1);
    Due.is("crashed twice", s.isOpen(), 0);
    Due.closed("a call that throws", s::version);
    Due.is("it stays closed", s.isOpen(), 0);
    s.open();
    Due.is("opened", s.isOpen(), 1);
    s.poke(0, 1);
    s.poke(16, 1);
    Due.is("poked", s.isOpen(), 1);
    s.open();
    Due.is("no head", s.isOpen(), 0);
    s.begin(1);
    Due.is("begun", s.isOpen(), 1);
    s.edge(0, 0, true);
    Due.is("full", s.version(), FULL);
    Due.is("open still", s.isOpen(), 1);
    s.keep();
    s.poke(32, 1);
    s.open();
    Due.is("a bad row", s.isOpen(), 0);
  }
}
