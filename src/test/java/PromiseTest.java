import java.util.function.Consumer;

/** Each promise by itself: ordinary inputs, the edges that the document names, wrong inputs. */
public final class PromiseTest {
  private static final int NONE = GraphLog.NONE, FULL = GraphLog.FULL;
  private static final int[] NO_NODES = {-1, 64, 65, -64, Integer.MAX_VALUE, Integer.MIN_VALUE};

  public static void main(String[] args) {
    newObject();
    begin();
    edge();
    edgeOfFullLog();
    version();
    versionsShare();
    versionIsFull();
    answer();
    answerIsFull();
    drop();
    keep();
    crash();
    open();
    poke();
    byteAt();
    badAt();
    has();
    chunk();
    named();
    differ();
    far();
    usable();
    mask();
    told();
    isOpen();
    orderOfExceptions();
    calls512();
    Due.end();
  }

  private static GraphLog made(int room, int... edges) {
    GraphLog x = new GraphLog();
    x.begin(room);
    for (int i = 0; i + 1 < edges.length; i += 2) {
      x.edge(edges[i], edges[i + 1], true);
    }
    return x;
  }

  private static String toldAll(GraphLog x) {
    StringBuilder text = new StringBuilder();
    for (int what = 0; what <= 9; what++) {
      text.append(what == 0 ? "" : " ").append(x.told(what));
    }
    return text.toString();
  }

  private static long diskSum(GraphLog x) {
    byte[] bytes = new byte[24032];
    for (int i = 0; i < bytes.length; i++) {
      bytes[i] = (byte) x.byteAt(i);
    }
    return java.util.Arrays.hashCode(bytes);
  }

  /** CHANGES until no more of them fit. */
  private static void fillLog(GraphLog x) {
    for (int i = 0; i < 1600; i++) {
      x.edge(i % 64, i / 64 % 64, true);
    }
  }

  /** What answers FULL, or throws, leaves all as it was. */
  private static void changesNothing(String what, GraphLog x, Due.Call call, String want) {
    String before = toldAll(x) + " " + diskSum(x);
    Due.is(what, Due.outcome(call), want);
    Due.is(what + " changes nothing", toldAll(x) + " " + diskSum(x), before);
  }

  private static void newObject() {
    GraphLog x = new GraphLog();
    Due.is("a new object is open", x.isOpen(), true);
    Due.is("all that a new object tells", toldAll(x), "0 0 0 0 0 0 0 0 0 0");
    Due.is("a new object's head", Bytes.stands(x, 0, Bytes.headBytes(0, 0)), true);
    Due.is("a new object's room", x.named(63), 0);
    Due.outside("a new object's room ends", () -> x.named(64));
    for (int i = 16; i < 24032; i++) {
      Due.is("a new disk's byte " + i, x.byteAt(i), 0);
    }
  }

  private static void begin() {
    GraphLog x = made(8, 0, 1, 1, 2);
    x.version();
    x.answer(0, 0);
    x.keep();
    x.poke(5000, 77);
    x.begin(3);
    Due.is("all that is told after begin", toldAll(x), "0 0 0 0 0 0 0 0 0 0");
    Due.is("the head after begin", Bytes.stands(x, 0, Bytes.headBytes(0, 0)), true);
    for (int i = 16; i < 24032; i++) {
      Due.is("the disk's byte after begin, " + i, x.byteAt(i), 0);
    }
    Due.is("NOW after begin", x.has(NONE, 0, 1), false);
    Due.outside("a version after begin", () -> x.chunk(0, 0));
    Due.outside("an answer after begin", () -> x.mask(0));
    Due.is("begin(3): 2 is of the room", x.named(2), 0);
    Due.outside("begin(3): 3 is not", () -> x.named(3));
    Due.is("crash behind begin", x.crash(100), 0);
    Due.is("the head of begin outlives it", x.open(), 0);
    x.crash(0);
    x.begin(65536);
    Due.is("begin opens", x.isOpen(), true);
    Due.is("the greatest room", x.named(65535), 0);
    Due.outside("behind the greatest room", () -> x.named(65536));
    x.begin(1);
    Due.is("the least room", x.version(), 0);
    beginRefuses();
  }

  private static void beginRefuses() {
    GraphLog x = made(5, 0, 1);
    int[] below = {-1, -5, Integer.MIN_VALUE};
    for (int n : below) {
      changesNothing("begin(" + n + ")", x, () -> { x.begin(n); return 0; }, "throws.NegativeArraySizeException");
    }
    int[] wrong = {0, 65537, Integer.MAX_VALUE};
    for (int n : wrong) {
      changesNothing("begin(" + n + ")", x, () -> { x.begin(n); return 0; }, "throws.IllegalArgumentException");
    }
    Due.is("the room stays", x.named(4), 0);
    Due.outside("the room stays as it was", () -> x.named(5));
    x.crash(0);
    Due.is("begin(0), closed", Due.outcome(() -> { x.begin(0); return 0; }), "throws.IllegalArgumentException");
    Due.is("it stays closed", x.isOpen(), false);
  }

  private static void edge() {
    GraphLog x = new GraphLog();
    Due.is("an edge goes that is not there", x.edge(0, 1, false), 0);
    Due.is("nothing is written", toldAll(x), "0 0 0 0 0 0 0 0 0 0");
    Due.is("an edge comes", x.edge(0, 63, true), 1);
    Due.is("one change is told", toldAll(x), "0 0 0 15 1 0 1 0 1 15");
    Due.is("it is there already", x.edge(0, 63, true), 0);
    Due.is("the other way is another edge", x.edge(63, 0, true), 1);
    Due.is("to itself", x.edge(7, 7, true), 1);
    Due.is("an edge goes", x.edge(0, 63, false), 1);
    Due.is("it has gone", x.has(NONE, 0, 63), false);
    Due.is("the others stay", x.has(NONE, 63, 0) && x.has(NONE, 7, 7), true);
    Due.is("four changes are told", toldAll(x), "0 0 0 60 4 0 2 0 4 60");
    Bytes due = new Bytes().change(0, 0, 63, 1).change(1, 63, 0, 1).change(2, 7, 7, 1).change(3, 0, 63, 0);
    Due.is("the changes on the disk", Bytes.stands(x, 32, due.log()), true);
    for (int n : NO_NODES) {
      changesNothing("edge from " + n, x, () -> x.edge(n, 0, true), "throws.IndexOutOfBoundsException");
      changesNothing("edge to " + n, x, () -> x.edge(0, n, true), "throws.IndexOutOfBoundsException");
    }
    x.crash(0);
    Due.closed("edge, closed", () -> x.edge(0, 1, true));
    Due.closed("edge of no node, closed", () -> x.edge(-1, 1, true));
  }

  private static void edgeOfFullLog() {
    GraphLog x = new GraphLog();
    fillLog(x);
    Due.is("1600 changes fill the log to its last byte", x.told(3), 24000);
    Due.is("the last row is right", x.badAt(), NONE);
    changesNothing("edge, the log is full", x, () -> x.edge(63, 63, true), "-3");
    changesNothing("an edge that is so, the log is full", x, () -> x.edge(0, 0, true), "0");
    changesNothing("no node, the log is full", x, () -> x.edge(64, 0, true), "throws.IndexOutOfBoundsException");
    changesNothing("version, the log is full", x, x::version, "-3");
    Due.is("a head is written none the less", x.keep(), 1);
    Due.is("the full log opens", x.open(), 0);
    Due.is("it has all edges", x.told(6), 1600);
  }

  private static void version() {
    GraphLog x = made(64, 0, 1, 9, 63, 63, 62);
    Due.is("the first version", x.version(), 0);
    Bytes due = new Bytes().change(0, 0, 1, 1).change(1, 9, 63, 1).change(2, 63, 62, 1);
    due.chunk(0, 2L).chunk(1, 0L, Long.MIN_VALUE).chunk(2).chunk(3, 0, 0, 0, 0, 0, 0, 0, 1L << 62);
    due.version(0, 0, 1, 2, 2, 2, 2, 2, 3);
    Due.is("chunks by g, each once, then the version", Bytes.stands(x, 32, due.log()), true);
    Due.is("what is told of it", toldAll(x), "1 1 0 377 3 0 3 4 8 377");
    x.edge(0, 1, false);
    Due.is("a version is NOW as it was", x.has(0, 0, 1), true);
    Due.is("NOW goes on", x.has(NONE, 0, 1), false);
    Due.is("the second version", x.version(), 1);
    due.change(3, 0, 1, 0).version(1, 2, 1, 2, 2, 2, 2, 2, 3);
    Due.is("no chunk is new", Bytes.stands(x, 32, due.log()), true);
    Due.is("what is told of both", toldAll(x), "2 2 0 420 4 0 2 4 10 420");
    x.crash(0);
    Due.closed("version, closed", x::version);
  }

  private static void versionsShare() {
    GraphLog x = made(64, 0, 0);
    x.version();
    x.edge(8, 0, true);
    x.version();
    Due.is("chunks of two nodes in other chunks are one", x.chunk(1, 1), x.chunk(0, 0));
    Due.is("nothing but the version was written", x.told(8), 6);
    x.edge(16, 5, true);
    x.version();
    Due.is("a third chunk", x.chunk(2, 2), 2);
    x.drop(0);
    x.drop(1);
    x.edge(0, 0, false);
    x.edge(8, 0, false);
    x.version();
    Due.is("drops leave what another names", x.named(0), 1);
    Due.is("NOW has two chunks of the third version", x.told(7), 3);
    x.drop(2);
    Due.is("0 is named by none", x.named(0), 0);
    x.edge(0, 0, true);
    int rows = x.told(8);
    x.version();
    Due.is("what no version names any more is new again", x.told(8), rows + 2);
    Due.is("by the least number", x.chunk(4, 0), 0);
    x.edge(24, 1, true);
    x.edge(32, 2, true);
    x.version();
    Due.is("the next free number", x.chunk(5, 3), 3);
    Due.is("and the one behind it", x.chunk(5, 4), 4);
    Due.is("the log is right", x.badAt(), NONE);
  }

  private static void versionIsFull() {
    GraphLog x = made(2, 0, 0);
    Due.is("two chunks fit", x.version(), 0);
    x.edge(8, 1, true);
    changesNothing("a third does not", x, x::version, "-3");
    x.edge(8, 1, false);
    Due.is("alike ones do", x.version(), 1);
    x.edge(0, 0, false);
    Due.is("one chunk is enough", x.version(), 2);
    x.drop(0);
    x.drop(1);
    x.edge(8, 1, true);
    Due.is("a number that is free again", x.version(), 3);
    Due.is("which it is", x.chunk(3, 1), 0);
    x.edge(0, 3, true);
    changesNothing("one of two that are new does not fit", x, x::version, "-3");
    GraphLog many = made(1);
    for (int i = 0; i < 100; i++) {
      Due.is("version " + i, many.version(), i);
    }
    many.drop(3);
    changesNothing("100 were made", many, many::version, "-3");
    Due.is("99 are there", many.told(0), 99);
    GraphLog enough = lastBytes(104);
    Due.is("version of one new chunk with 104 bytes left", enough.version(), 1);
    Due.is("it fills the log", enough.told(3), 24000);
    Due.is("it is right", enough.badAt(), NONE);
    GraphLog less = lastBytes(103);
    changesNothing("version of one new chunk with 103 bytes left", less, less::version, "-3");
  }

  private static void answer() {
    GraphLog x = made(64, 0, 1, 1, 2, 2, 0, 2, 63, 5, 0);
    x.version();
    int length = x.told(3);
    x.edge(63, 40, true);
    Due.is("an answer", x.answer(0, 1), 0);
    Due.is("its mask is of the version, not of NOW", x.mask(0), 1L << 63 | 7L);
    Due.is("the same again is another", x.answer(0, 1), 1);
    Due.is("a node without edges", x.answer(0, 40), 2);
    Due.is("has itself", x.mask(2), 1L << 40);
    Due.is("the last node", x.answer(0, 63), 3);
    Due.is("has the highest bit", x.mask(3), Long.MIN_VALUE);
    Due.is("what is told of them", toldAll(x), "1 1 4 " + (length + 15 + 88) + " 6 0 6 2 13 " + (length + 15 + 88));
    Bytes due = new Bytes().change(0, 0, 1, 1).change(1, 1, 2, 1).change(2, 2, 0, 1).change(3, 2, 63, 1)
        .change(4, 5, 0, 1).chunk(0, 2, 4, 1L << 63 | 1, 0, 0, 1).chunk(1).version(0, 0, 1).change(5, 63, 40, 1)
        .answer(0, 0, 1, 1L << 63 | 7L).answer(1, 0, 1, 1L << 63 | 7L).answer(2, 0, 40, 1L << 40)
        .answer(3, 0, 63, Long.MIN_VALUE);
    Due.is("the answers on the disk", Bytes.stands(x, 32, due.log()), true);
    for (int n : NO_NODES) {
      changesNothing("answer of node " + n, x, () -> x.answer(0, n), "throws.IndexOutOfBoundsException");
      changesNothing("answer of version " + n, x, () -> x.answer(n, 0), "throws.IndexOutOfBoundsException");
    }
    changesNothing("a version not made yet", x, () -> x.answer(1, 0), "throws.IndexOutOfBoundsException");
    x.drop(0);
    changesNothing("a version that is dropped", x, () -> x.answer(0, 0), "throws.IndexOutOfBoundsException");
    x.crash(0);
    Due.closed("answer, closed", () -> x.answer(0, 0));
    answerOfALine();
  }

  private static void answerOfALine() {
    GraphLog x = new GraphLog();
    for (int i = 0; i < 63; i++) {
      x.edge(63 - i, 62 - i, true);
    }
    x.version();
    x.answer(0, 63);
    Due.is("a line of all nodes", x.mask(0), -1L);
    x.answer(0, 31);
    Due.is("half a line", x.mask(1), 0xFFFFFFFFL);
  }

  private static void answerIsFull() {
    GraphLog x = made(64, 0, 1);
    x.version();
    for (int i = 0; i < 100; i++) {
      Due.is("answer " + i, x.answer(0, i % 64), i);
    }
    changesNothing("100 were made", x, () -> x.answer(0, 0), "-3");
    changesNothing("100 were made, no such node", x, () -> x.answer(0, 64), "throws.IndexOutOfBoundsException");
    Due.is("the hundredth", x.mask(99), 1L << 35);
    Due.outside("there is no more", () -> x.mask(100));
    GraphLog full = made(64);
    full.version();
    fillLog(full);
    Due.is("one byte is left", 24000 - full.told(3), 1);
    changesNothing("answer, the log is full", full, () -> full.answer(0, 0), "-3");
    changesNothing("drop, the log is full", full, () -> full.drop(0), "-3");
    changesNothing("drop of none, the log is full", full, () -> full.drop(1), "throws.IndexOutOfBoundsException");
    GraphLog twelve = lastBytes(12);
    changesNothing("answer with 12 bytes left", twelve, () -> twelve.answer(0, 0), "-3");
    Due.is("drop with 12 bytes left", twelve.drop(0), 1);
    Due.is("the log is full to its last byte", twelve.told(3), 24000);
    GraphLog more = lastBytes(22);
    Due.is("answer with 22 bytes left", more.answer(0, 0), more.told(2) - 1);
    Due.is("that fills the log", more.told(3), 24000);
    GraphLog less = lastBytes(21);
    changesNothing("answer with 21 bytes left", less, () -> less.answer(0, 0), "-3");
    GraphLog fifteen = lastBytes(15);
    Due.is("edge with 15 bytes left", fifteen.edge(63, 63, true), 1);
    GraphLog fourteen = lastBytes(14);
    changesNothing("edge with 14 bytes left", fourteen, () -> fourteen.edge(63, 63, true), "-3");
  }

  /** Version 0 is there, without edges, and NOW has one from 0 to 0; so many bytes of the log are free. */
  private static GraphLog lastBytes(int bytes) {
    Bytes log = new Bytes().chunk(0).version(0, 0).change(0, 0, 0, 1);
    int answers = 0;
    while ((24000 - bytes - log.length() - 22 * answers) % 15 != 0) {
      answers++;
    }
    for (int i = 0; i < answers; i++) {
      log.answer(i, 0, 0, 1);
    }
    for (int i = 1; log.length() < 24000 - bytes; i++) {
      log.change(i, 1, 1, i % 2);
    }
    GraphLog x = log.onNew(64);
    Due.is("the log with " + bytes + " bytes left opens", x.open(), 1);
    Due.is("they are left", 24000 - x.told(3), bytes);
    return x;
  }

  private static void drop() {
    GraphLog x = made(64, 0, 1, 8, 2, 16, 3);
    x.version();
    x.edge(8, 2, false);
    x.version();
    x.version();
    int length = x.told(3);
    Due.is("one chunk of four is named by none any more", x.drop(0), 1);
    Due.is("a drop has twelve bytes", x.told(3), length + 12);
    byte[] row = new byte[12];
    for (int i = 0; i < 12; i++) {
      row[i] = (byte) x.byteAt(32 + length + i);
    }
    Due.is("its front", row[0] == 5 && row[1] == 0 && row[2] == 0 && row[3] == 0, true);
    Due.is("its sum", Bytes.stands(x, 36 + length, sumOf(row, 32 + length)), true);
    Due.is("drop of one of two that are alike", x.drop(2), 0);
    Due.is("one version is there", x.told(0), 1);
    Due.is("three were made", x.told(1), 3);
    Due.is("three chunks are left", x.drop(1), 3);
    Due.is("none is named", x.told(7), 0);
    int[] gone = {0, 1, 2, 3, -1, 100, Integer.MAX_VALUE, Integer.MIN_VALUE};
    for (int v : gone) {
      changesNothing("drop(" + v + ")", x, () -> x.drop(v), "throws.IndexOutOfBoundsException");
    }
    Due.is("the next version's number", x.version(), 3);
    x.keep();
    Due.is("open knows the drops", x.open(), 1);
    Due.outside("a dropped version after open", () -> x.drop(1));
    x.crash(0);
    Due.closed("drop, closed", () -> x.drop(3));
  }

  private static byte[] sumOf(byte[] row, int place) {
    java.io.ByteArrayOutputStream sum = new java.io.ByteArrayOutputStream();
    Bytes.number(sum, Bytes.sum(java.util.Arrays.copyOf(row, row.length - 8), place), 8);
    return sum.toByteArray();
  }

  private static void keep() {
    GraphLog x = made(64, 0, 1);
    Due.is("the first turn", x.keep(), 1);
    Due.is("it is at 16", Bytes.stands(x, 16, Bytes.headBytes(1, 15)), true);
    Due.is("that at 0 stays", Bytes.stands(x, 0, Bytes.headBytes(0, 0)), true);
    x.edge(1, 2, true);
    Due.is("the second turn", x.keep(), 2);
    Due.is("it is at 0", Bytes.stands(x, 0, Bytes.headBytes(2, 30)), true);
    Due.is("that at 16 stays", Bytes.stands(x, 16, Bytes.headBytes(1, 15)), true);
    Due.is("what is told", toldAll(x), "0 0 0 30 2 2 2 0 2 62");
    x.version();
    Due.is("the third turn", x.keep(), 3);
    Due.is("the length of more than a byte", Bytes.stands(x, 16, Bytes.headBytes(3, x.told(3))), true);
    x.crash(0);
    Due.closed("keep, closed", x::keep);
    turnsOfManyBits();
  }

  private static void turnsOfManyBits() {
    GraphLog x = new GraphLog();
    Bytes.put(x, 0, Bytes.headBytes(0x7FFFFFFEL, 0));
    Due.is("a great turn opens", x.open(), 0);
    Due.is("it is told", x.told(5), 0x7FFFFFFE);
    Due.is("one more", x.keep(), Integer.MAX_VALUE);
    Due.is("one more, as an int", x.keep(), Integer.MIN_VALUE);
    Due.is("it is at 0", Bytes.stands(x, 0, Bytes.headBytes(0x80000000L, 0)), true);
    x.edge(0, 0, true);
    Due.is("and one more", x.keep(), Integer.MIN_VALUE + 1);
    x.open();
    Due.is("turns have no sign", x.told(5), Integer.MIN_VALUE + 1);
    Bytes.put(x, 0, Bytes.headBytes(0x7FFFFFFFL, 0));
    x.open();
    Due.is("turns have no sign, of two", x.told(5), Integer.MIN_VALUE + 1);
    Bytes.put(x, 16, Bytes.headBytes(0xFFFFFFFFL, 15));
    x.open();
    Due.is("the greatest turn", x.told(5), -1);
    Due.is("turns have 32 bits", x.keep(), 0);
    Due.is("0 is even", Bytes.stands(x, 0, Bytes.headBytes(0, 15)), true);
    x.open();
    Due.is("open takes the greater", x.told(5), -1);
  }

  private static void crash() {
    int[] ns = {0, -1, Integer.MIN_VALUE, 1, 14, 15, 16, 30, 46, 47, Integer.MAX_VALUE};
    for (int n : ns) {
      GraphLog x = made(64, 0, 1, 1, 2);
      x.keep();
      byte[] was = disk(x);
      int due = n < 0 ? 0 : Math.min(n, 46);
      Due.is("crash(" + n + ")", x.crash(n), due);
      Due.is("it is closed then", x.isOpen(), false);
      byte[] empty = disk(new GraphLog());
      for (int i = 0; i < 46; i++) {
        // the changes come first, then the head at 16
        int place = i < 30 ? 32 + i : i - 14;
        Due.is("crash(" + n + "), byte " + place, x.byteAt(place), (i < 46 - due ? was : empty)[place] & 255);
      }
      Due.is("crash again", x.crash(5), 0);
      Due.is("it opens", x.open(), 0);
      Due.is("with what the head tells", x.told(4), due == 0 ? 2 : 0);
      Due.is("nothing was written since", x.crash(100), 0);
    }
    crashGoesBackOverHeads();
    crashAndPoke();
  }

  private static byte[] disk(GraphLog x) {
    byte[] bytes = new byte[24032];
    for (int i = 0; i < bytes.length; i++) {
      bytes[i] = (byte) x.byteAt(i);
    }
    return bytes;
  }

  private static void crashGoesBackOverHeads() {
    GraphLog x = made(64, 0, 1);
    for (int i = 0; i < 5; i++) {
      x.keep();
    }
    Due.is("five heads and a change", x.told(9), 95);
    Due.is("two heads go", x.crash(32), 32);
    Due.is("of two at one place the older stands", Bytes.stands(x, 16, Bytes.headBytes(3, 15)), true);
    Due.is("the other is of turn 2", Bytes.stands(x, 0, Bytes.headBytes(2, 15)), true);
    x.open();
    Due.is("turn 3 is the latest", x.told(5), 3);
    x.keep();
    x.keep();
    x.open();
    x.edge(1, 1, true);
    Due.is("bytes ahead of open stay", x.crash(1000), 15);
    x.open();
    Due.is("the turn stays", x.told(5), 5);
    x.edge(2, 2, true);
    x.keep();
    Due.is("half a head goes", x.crash(8), 8);
    Due.is("the other head is taken", x.open(), 0);
    Due.is("its turn", x.told(5), 5);
  }

  private static void crashAndPoke() {
    GraphLog x = new GraphLog();
    x.poke(32, 0x55);
    x.edge(0, 1, true);
    x.poke(32, 0xF0);
    x.poke(100, 9);
    Due.is("poke is not written", x.told(9), 15);
    Due.is("all that was written", x.crash(99), 15);
    Due.is("a byte is what it was before it was written", x.byteAt(32), 0x55);
    Due.is("a poked byte stays", x.byteAt(100), 9);
    GraphLog y = made(64, 0, 1);
    y.begin(9);
    y.poke(40, 1);
    Due.is("nothing was written since begin", y.crash(5), 0);
    Due.is("what was poked stays", y.byteAt(40), 1);
    GraphLog z = made(64, 0, 1);
    z.poke(0, 1);
    Due.is("no head", z.open(), NONE);
    Due.is("closed by open: crash", z.crash(15), 0);
    Due.is("closed by open: nothing goes", z.byteAt(32), 2);
  }

  private static void open() {
    GraphLog x = made(64, 0, 1);
    x.version();
    x.answer(0, 0);
    x.keep();
    x.edge(2, 3, true);
    x.version();
    Due.is("open of an open store", x.open(), 1);
    Due.is("what was not kept is not there", toldAll(x), "1 1 1 217 1 1 1 2 5 0");
    Due.is("it is open", x.isOpen(), true);
    Due.is("the answer", x.mask(0), 3);
    Due.outside("the version that was not kept", () -> x.chunk(1, 0));
    Due.is("the log goes on where it was kept", x.edge(9, 9, true), 1);
    Due.is("behind it", x.byteAt(32 + 217), 2);
    x.drop(0);
    x.keep();
    Due.is("no version is there", x.open(), 0);
    Due.is("one was made", x.told(1), 1);
    Due.is("the next has another number", x.version(), 1);
    x.keep();
    Due.is("one of two is there", x.open(), 1);
    x.crash(0);
    Due.is("open of a closed store", x.open(), 1);
    openFails(x);
  }

  private static void openFails(GraphLog x) {
    int rows = x.told(8);
    int last = 32 + x.told(3) - 1;
    x.poke(last, 1);
    Due.is("the last row is not right", x.open(), -2 - (rows - 1));
    Due.is("it is closed then", x.isOpen(), false);
    Due.closed("nothing is told then", () -> x.told(0));
    x.poke(last, 1);
    Due.is("it is right again", x.open(), 1);
    x.poke(32, 128);
    Due.is("the first row is not right", x.open(), -2);
    x.poke(32, 128);
    x.poke(15, 4);
    x.poke(31, 4);
    Due.is("no head is right", x.open(), NONE);
    Due.is("closed", x.isOpen(), false);
    x.poke(31, 4);
    Due.is("one head is", x.open(), 1);
    x.begin(7);
    Due.is("a begin behind it", x.told(3), 0);
  }

  private static void poke() {
    GraphLog x = made(64, 0, 1);
    Due.is("what it was", x.poke(32, 0x1FF), 2);
    Due.is("the lowest eight bits", x.byteAt(32), 2 ^ 255);
    Due.is("without a sign", x.poke(32, 0xFFFFFF00), 253);
    Due.is("no bit of eight", x.byteAt(32), 253);
    Due.is("all bits", x.poke(32, -1), 253);
    Due.is("as it was", x.byteAt(32), 2);
    Due.is("the first place", x.poke(0, 7), 0);
    Due.is("the last place", x.poke(24031, 8), 0);
    Due.is("the last byte", x.byteAt(24031), 8);
    x.poke(36, 63);
    Due.is("what the store knows stays", x.has(NONE, 0, 1), true);
    Due.is("the turn stays", x.told(5), 0);
    int[] wrong = {-1, 24032, Integer.MAX_VALUE, Integer.MIN_VALUE};
    for (int place : wrong) {
      changesNothing("poke(" + place + ")", x, () -> x.poke(place, 1), "throws.IndexOutOfBoundsException");
    }
    x.crash(0);
    Due.is("closed: it does not care", x.poke(24031, 3), 8);
    Due.is("closed: the byte", x.byteAt(24031), 11);
    Due.outside("closed: no place", () -> x.poke(24032, 0));
  }

  private static void byteAt() {
    GraphLog x = new GraphLog();
    byte[] head = Bytes.headBytes(0, 0);
    for (int i = 0; i < 16; i++) {
      Due.is("the head's byte " + i, x.byteAt(i), head[i] & 255);
    }
    Due.is("the last byte", x.byteAt(24031), 0);
    int[] wrong = {-1, 24032, Integer.MAX_VALUE, Integer.MIN_VALUE};
    for (int place : wrong) {
      Due.outside("byteAt(" + place + ")", () -> x.byteAt(place));
    }
    x.crash(0);
    Due.is("closed: it does not care", x.byteAt(8), head[8] & 255);
    Due.outside("closed: no place", () -> x.byteAt(-1));
  }

  private static void badAt() {
    GraphLog x = made(64);
    Due.is("an empty log", x.badAt(), NONE);
    x.edge(0, 1, true);
    x.version();
    x.answer(0, 0);
    x.drop(0);
    int[] ends = {15, 91, 167, 195, 217, 229};
    Due.is("no row is bad, though no head tells of them", x.badAt(), NONE);
    String told = toldAll(x);
    int row = 0;
    for (int i = 0; i < 229; i++) {
      if (i == ends[row]) {
        row++;
      }
      x.poke(32 + i, 1 << (i % 8));
      Due.is("badAt with a turned byte " + i, x.badAt(), row);
      x.poke(32 + i, 1 << (i % 8));
    }
    Due.is("it changes nothing", toldAll(x), told);
    x.poke(32, 1);
    x.poke(260, 1);
    Due.is("of two the first", x.badAt(), 0);
    x.poke(32, 1);
    Due.is("the last", x.badAt(), 5);
    x.poke(260, 1);
    x.poke(32 + 229, 255);
    x.poke(0, 1);
    Due.is("what is behind the log, and heads, count for nothing", x.badAt(), NONE);
    x.crash(0);
    Due.closed("badAt, closed", x::badAt);
  }

  private static void has() {
    GraphLog x = made(64, 0, 0, 7, 63, 8, 0, 63, 63);
    x.version();
    x.edge(0, 0, false);
    x.edge(0, 1, true);
    Due.is("a version's first edge", x.has(0, 0, 0), true);
    Due.is("not NOW's", x.has(NONE, 0, 0), false);
    Due.is("NOW's", x.has(NONE, 0, 1), true);
    Due.is("not the version's", x.has(0, 0, 1), false);
    Due.is("a chunk's last node", x.has(0, 7, 63), true);
    Due.is("a chunk's first node", x.has(0, 8, 0), true);
    Due.is("the last", x.has(0, 63, 63), true);
    Due.is("the other way", x.has(0, 63, 7), false);
    allVersions("has", x, v -> x.has(v, 0, 0), true);
    for (int n : NO_NODES) {
      Due.outside("has from " + n, () -> x.has(0, n, 0) ? 1 : 0);
      Due.outside("has to " + n, () -> x.has(NONE, 0, n) ? 1 : 0);
    }
    x.crash(0);
    Due.closed("has, closed", () -> x.has(NONE, 0, 0) ? 1 : 0);
  }

  /** Versions that are not there are refused; version 0 is there, and is dropped here. */
  private static void allVersions(String what, GraphLog x, Consumer<Integer> call, boolean noneIsNow) {
    Due.is(what + ", version 0", Due.outcome(() -> ran(call, 0)), "0");
    Due.is(what + ", NONE", Due.outcome(() -> ran(call, NONE)), noneIsNow ? "0" : "throws.IndexOutOfBoundsException");
    x.version();
    x.drop(1);
    int[] wrong = {1, 2, -2, -3, 99, 100, 101, 255, 256, Integer.MAX_VALUE, Integer.MIN_VALUE};
    for (int v : wrong) {
      Due.outside(what + ", version " + v, () -> ran(call, v));
    }
  }

  private static long ran(Consumer<Integer> call, int version) {
    call.accept(version);
    return 0;
  }

  private static void chunk() {
    GraphLog x = made(64, 0, 1, 60, 1);
    x.version();
    int[] due = {0, 1, 1, 1, 1, 1, 1, 2};
    for (int g = 0; g < 8; g++) {
      Due.is("chunk(0, " + g + ")", x.chunk(0, g), due[g]);
    }
    int[] wrong = {-1, 8, Integer.MAX_VALUE, Integer.MIN_VALUE};
    for (int g : wrong) {
      Due.outside("chunk(0, " + g + ")", () -> x.chunk(0, g));
    }
    allVersions("chunk", x, v -> x.chunk(v, 0), false);
    x.crash(0);
    Due.closed("chunk, closed", () -> x.chunk(0, 0));
  }

  private static void named() {
    GraphLog x = made(10, 0, 1, 60, 1);
    Due.is("no version", x.named(0), 0);
    x.version();
    x.version();
    x.edge(0, 1, false);
    x.version();
    Due.is("by two of three", x.named(0), 2);
    Due.is("by all, each counts once", x.named(1), 3);
    Due.is("the last chunk", x.named(2), 3);
    Due.is("no such yet", x.named(3), 0);
    x.drop(0);
    Due.is("by one", x.named(0), 1);
    Due.is("by two", x.named(1), 2);
    x.drop(1);
    Due.is("by none", x.named(0), 0);
    Due.is("the room's last", x.named(9), 0);
    int[] wrong = {-1, 10, Integer.MAX_VALUE, Integer.MIN_VALUE};
    for (int n : wrong) {
      Due.outside("named(" + n + ")", () -> x.named(n));
    }
    x.keep();
    x.open();
    Due.is("after open", x.named(1), 1);
    Due.outside("the room stays after open", () -> x.named(10));
    x.crash(0);
    Due.closed("named, closed", () -> x.named(0));
  }

  private static void differ() {
    GraphLog x = made(64, 0, 1, 1, 2, 63, 63);
    x.version();
    x.edge(0, 1, false);
    x.edge(5, 5, true);
    x.edge(6, 6, true);
    x.version();
    x.edge(63, 63, false);
    Due.is("one goes, two come", x.differ(0, 1), 3);
    Due.is("the other way", x.differ(1, 0), 3);
    Due.is("with itself", x.differ(1, 1), 0);
    Due.is("with NOW", x.differ(0, NONE), 4);
    Due.is("NOW with it", x.differ(NONE, 1), 1);
    Due.is("NOW with NOW", x.differ(NONE, NONE), 0);
    GraphLog y = made(64, 0, 1);
    y.version();
    allVersions("differ, one", y, v -> y.differ(v, 0), true);
    int[] wrong = {1, 3, -2, 100, Integer.MAX_VALUE, Integer.MIN_VALUE};
    for (int v : wrong) {
      Due.outside("differ, the other " + v, () -> y.differ(0, v));
      Due.outside("differ with itself, " + v, () -> y.differ(v, v));
    }
    y.crash(0);
    Due.closed("differ, closed", () -> y.differ(NONE, NONE));
  }

  private static void far() {
    GraphLog x = made(64, 0, 1, 1, 2, 2, 3, 3, 0, 0, 3, 9, 9);
    x.version();
    x.edge(0, 3, false);
    Due.is("to itself", x.far(0, 5, 5), 0);
    Due.is("to itself by an edge", x.far(0, 9, 9), 0);
    Due.is("one edge", x.far(0, 0, 3), 1);
    Due.is("NOW has three", x.far(NONE, 0, 3), 3);
    Due.is("two edges", x.far(0, 3, 1), 2);
    Due.is("edges have a way", x.far(0, 2, 1), 3);
    Due.is("one does not come there", x.far(0, 0, 9), NONE);
    Due.is("nor from there", x.far(NONE, 9, 0), NONE);
    allVersions("far", x, v -> x.far(v, 0, 0), true);
    for (int n : NO_NODES) {
      Due.outside("far from " + n, () -> x.far(0, n, 0));
      Due.outside("far to " + n, () -> x.far(NONE, 0, n));
      Due.outside("far from itself, " + n, () -> x.far(NONE, n, n));
    }
    x.crash(0);
    Due.closed("far, closed", () -> x.far(NONE, 0, 0));
    GraphLog line = new GraphLog();
    for (int i = 0; i < 63; i++) {
      line.edge(i, i + 1, true);
    }
    Due.is("a line of all nodes", line.far(NONE, 0, 63), 63);
    Due.is("its half", line.far(NONE, 31, 63), 32);
  }

  private static void usable() {
    GraphLog x = made(64, 0, 1);
    x.version();
    x.edge(1, 2, true);
    x.version();
    x.answer(1, 0);
    x.answer(0, 0);
    Due.is("of a version that is there", x.usable(0) && x.usable(1), true);
    x.drop(1);
    Due.is("of one that is not", x.usable(0), false);
    Due.is("of the other", x.usable(1), true);
    int[] wrong = {-1, 2, 99, 100, Integer.MAX_VALUE, Integer.MIN_VALUE};
    for (int n : wrong) {
      Due.outside("usable(" + n + ")", () -> x.usable(n) ? 1 : 0);
    }
    x.keep();
    x.open();
    Due.is("after open", x.usable(0), false);
    Due.is("after open, the other", x.usable(1), true);
    x.crash(0);
    Due.closed("usable, closed", () -> x.usable(0) ? 1 : 0);
  }

  private static void mask() {
    GraphLog x = made(64, 0, 63, 63, 5);
    x.version();
    x.answer(0, 0);
    x.answer(0, 63);
    x.drop(0);
    Due.is("a mask, usable or not", x.mask(0), 1L | 1L << 63 | 1L << 5);
    Due.is("another", x.mask(1), 1L << 63 | 1L << 5);
    int[] wrong = {-1, 2, 99, 100, Integer.MAX_VALUE, Integer.MIN_VALUE};
    for (int n : wrong) {
      Due.outside("mask(" + n + ")", () -> x.mask(n));
    }
    x.keep();
    x.open();
    Due.is("after open", x.mask(1), 1L << 63 | 1L << 5);
    x.crash(0);
    Due.closed("mask, closed", () -> x.mask(0));
  }

  private static void told() {
    GraphLog x = made(64, 0, 1, 1, 2);
    x.edge(0, 1, false);
    x.version();
    x.version();
    x.drop(0);
    x.answer(1, 1);
    x.keep();
    x.keep();
    Due.is("all that is told", toldAll(x), "1 2 1 287 3 2 1 2 9 319");
    x.open();
    Due.is("all that is told after open", toldAll(x), "1 2 1 287 3 2 1 2 9 0");
    int[] wrong = {-1, 10, Integer.MAX_VALUE, Integer.MIN_VALUE};
    for (int n : wrong) {
      Due.outside("told(" + n + ")", () -> x.told(n));
    }
    x.crash(0);
    for (int n = 0; n < 10; n++) {
      int what = n;
      Due.closed("told(" + n + "), closed", () -> x.told(what));
    }
  }

  private static void isOpen() {
    GraphLog x = new GraphLog();
    Due.is("a new object", x.isOpen(), true);
    x.crash(-1);
    Due.is("after crash", x.isOpen(), false);
    x.open();
    Due.is("after open", x.isOpen(), true);
    x.poke(0, 1);
    Due.is("after poke", x.isOpen(), true);
    x.open();
    Due.is("after an open that does not", x.isOpen(), false);
    x.begin(3);
    Due.is("after begin", x.isOpen(), true);
  }

  /** All 512 calls may write; later ones may answer anything, but nothing goes wrong in them. */
  private static void calls512() {
    GraphLog x = new GraphLog();
    for (int i = 1; i < 511; i++) {
      x.keep();
    }
    Due.is("510 heads are written", x.told(9), 8160);
    Due.is("all of them go", x.crash(9000), 8160);
    Due.is("the first one stands", Bytes.stands(x, 0, Bytes.headBytes(0, 0)), true);
    Due.is("and no other", x.byteAt(19), 0);
    x.open();
    fillLog(x);
    for (int i = 0; i < 5000; i++) {
      x.keep();
    }
    Due.is("a crash far behind the 512th call", x.crash(Integer.MAX_VALUE) > 0, true);
  }

  private static void orderOfExceptions() {
    GraphLog x = new GraphLog();
    x.crash(0);
    Due.closed("edge(-1, 99)", () -> x.edge(-1, 99, true));
    Due.closed("answer(-1, 99)", () -> x.answer(-1, 99));
    Due.closed("drop(-1)", () -> x.drop(-1));
    Due.closed("has(7, -1, 99)", () -> x.has(7, -1, 99) ? 1 : 0);
    Due.closed("chunk(7, 8)", () -> x.chunk(7, 8));
    Due.closed("named(-1)", () -> x.named(-1));
    Due.closed("differ(7, 8)", () -> x.differ(7, 8));
    Due.closed("far(7, -1, 99)", () -> x.far(7, -1, 99));
    Due.closed("usable(-1)", () -> x.usable(-1) ? 1 : 0);
    Due.closed("mask(-1)", () -> x.mask(-1));
    Due.closed("told(-1)", () -> x.told(-1));
  }
}
