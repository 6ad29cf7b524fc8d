/** When heads and rows are right: logs made by hand, put on the disk by poke, and opened. */
public final class RightTest {
  private static final int NONE = GraphLog.NONE;
  private static final long HIGH = 0xFFFFFFFFL;

  public static void main(String[] args) {
    heads();
    headsOfTwo();
    lengths();
    frames();
    chunks();
    changes();
    versions();
    answers();
    drops();
    alikeByHand();
    oldRowsBehind();
    mostChunks();
    Due.end();
  }

  /** What open() says of a log on a new disk with a room of 4. */
  private static void opens(String what, Bytes log, int want) {
    GraphLog x = log.onNew(4);
    Due.is(what, x.open(), want);
    Due.is(what + ": is it open", x.isOpen(), want >= 0);
    if (want >= 0) {
      Due.is(what + ": badAt", x.badAt(), NONE);
    }
  }

  /** The last row of the log is not right, for open() and, in an open store, for badAt(). */
  private static void lastIsBad(String what, Bytes log, int rows) {
    opens(what, log, -2 - (rows - 1));
    Bytes other = rightLogOf(log.length());
    if (other != null) {
      GraphLog x = other.onNew(4);
      Due.is(what + ": right rows are there first", x.open() >= 0, true);
      Bytes.put(x, 32, log.log());
      Due.is(what + ": badAt", x.badAt(), rows - 1);
      Bytes.put(x, 32, other.log());
      Due.is(what + ": badAt, right again", x.badAt(), NONE);
    }
  }

  /** Right rows of so many bytes, so that an open store has a log of that length; null if none were found. */
  private static Bytes rightLogOf(int length) {
    for (int versions = 0; versions <= 100; versions++) {
      for (int answers = 0; answers <= (versions == 0 ? 0 : 14); answers++) {
        int rest = length - (versions == 0 ? 0 : 76) - 28 * versions - 22 * answers;
        for (int chunks = 0; chunks < 15 && rest >= 76 * chunks; chunks++) {
          if ((rest - 76 * chunks) % 15 == 0) {
            return rightLog(versions, answers, chunks, (rest - 76 * chunks) / 15);
          }
        }
      }
    }
    return null;
  }

  private static Bytes rightLog(int versions, int answers, int chunks, int changes) {
    Bytes log = versions == 0 ? new Bytes() : new Bytes().chunk(0);
    for (int i = 0; i < versions; i++) {
      log.version(i, 0);
    }
    for (int i = 0; i < answers; i++) {
      log.answer(i, 0, 0, 1);
    }
    for (int i = 0; i < chunks; i++) {
      log.chunk(1);
    }
    for (int i = 0; i < changes; i++) {
      log.change(i, 1, 1, 1 - i % 2);
    }
    return log;
  }

  private static void heads() {
    Bytes log = new Bytes().change(0, 1, 2, 1);
    GraphLog x = log.onNew(4);
    x.poke(16 + 15, 1);
    Due.is("a head with another sum is not taken", x.open(), 0);
    Due.is("but the other", x.told(5), 0);
    x.poke(16 + 15, 1);
    for (int i = 0; i < 16; i++) {
      x.poke(16 + i, 1 << (i % 8));
      x.open();
      Due.is("a head with a turned byte " + i, x.told(5), 0);
      x.poke(16 + i, 1 << (i % 8));
    }
    x.open();
    Due.is("the head with the greater turn", x.told(5), 1);
    x.poke(3, 1);
    x.open();
    Due.is("the other one may be wrong", x.told(4), 1);
    x.poke(19, 1);
    Due.is("both wrong", x.open(), NONE);
    Bytes.put(x, 0, new byte[16]);
    Bytes.put(x, 16, new byte[16]);
    Due.is("a head of zeros is not right", x.open(), NONE);
  }

  private static void headsOfTwo() {
    Bytes log = new Bytes().change(0, 1, 2, 1).change(1, 3, 4, 1);
    GraphLog x = log.onNew(4);
    taken(x, 5, 15, 5, 30, 15);
    taken(x, 6, 15, 5, 30, 15);
    taken(x, 5, 15, 6, 30, 30);
    taken(x, HIGH, 15, 6, 30, 15);
    taken(x, 0x80000000L, 15, 0x7FFFFFFFL, 30, 15);
    taken(x, 0x7FFFFFFFL, 15, 0x80000000L, 30, 30);
    taken(x, 0, 15, HIGH, 30, 30);
    // a turn need not be of the place where it stands
    taken(x, 7, 15, 4, 30, 15);
    Due.is("the turn behind an odd one at 0", x.keep(), 8);
    Due.is("is at 0, as it is even", Bytes.stands(x, 0, Bytes.headBytes(8, 15)), true);
  }

  private static void taken(GraphLog x, long turn0, int length0, long turn16, int length16, int want) {
    Bytes.put(x, 0, Bytes.headBytes(turn0, length0));
    Bytes.put(x, 16, Bytes.headBytes(turn16, length16));
    x.open();
    Due.is("of heads " + turn0 + " and " + turn16, x.told(3), want);
    Due.is("its turn, of " + turn0 + " and " + turn16, x.told(5), (int) (want == length0 ? turn0 : turn16));
  }

  private static void lengths() {
    GraphLog x = new GraphLog();
    long[] wrong = {24001, 24032, 0x80000000L, HIGH, 0x10000};
    for (long length : wrong) {
      Bytes.put(x, 16, Bytes.headBytes(1, length));
      Due.is("a length of " + length, x.open(), 0);
      Due.is("its head is not taken, " + length, x.told(5), 0);
    }
    Bytes.put(x, 16, Bytes.headBytes(1, 24000));
    Due.is("a length of 24000 is right, but there is no row", x.open(), -2);
    Bytes log = new Bytes().change(0, 1, 2, 1).change(1, 3, 4, 1);
    for (int length = 0; length <= 42; length++) {
      GraphLog y = new GraphLog();
      log.putOn(y, 1, length);
      Due.is("the log ends in a row, " + length, y.open(), length % 15 == 0 && length <= 30 ? 0 : -2 - length / 15);
    }
    GraphLog z = new GraphLog();
    log.putOn(z, 1, 15);
    z.open();
    Due.is("what is behind counts for nothing", z.has(NONE, 3, 4), false);
    Due.is("rows", z.told(8), 1);
    Bytes full = new Bytes();
    for (int i = 0; i < 1600; i++) {
      full.change(i, i % 64, i / 64, 1);
    }
    Due.is("a full log", full.onNew(4).open(), 0);
  }

  private static void frames() {
    int[] sizes = {64, 3, 16, 10, 0};
    for (int kind = 0; kind < 256; kind++) {
      if (kind < 1 || kind > 5) {
        lastIsBad("kind " + kind, new Bytes().row(kind, 0, new byte[3]), 1);
        lastIsBad("kind " + kind + ", no bytes", new Bytes().row(kind, 0, new byte[0]), 1);
      }
    }
    for (int kind = 1; kind <= 5; kind++) {
      int size = sizes[kind - 1];
      Bytes before = new Bytes().chunk(0).version(0, 0);
      opens("kind " + kind + " of its size", good(before, kind), kind == 5 ? 0 : kind == 3 ? 2 : 1);
      lastIsBad("kind " + kind + ", a byte more", front().row(kind, number(kind), text(kind, size + 1)), 3);
      if (size > 0) {
        lastIsBad("kind " + kind + ", a byte less", front().row(kind, number(kind), text(kind, size - 1)), 3);
      }
      lastIsBad("kind " + kind + ", another size told", front().row(kind, number(kind), size + 1, text(kind, size)), 3);
      lastIsBad("kind " + kind + ", size 255 told", front().row(kind, number(kind), 255, text(kind, size)), 3);
    }
    GraphLog x = new Bytes().change(0, 1, 2, 1).onNew(4);
    byte[] moved = new byte[15];
    for (int i = 0; i < 15; i++) {
      moved[i] = (byte) x.byteAt(32 + i);
    }
    moved[2] = 1;
    Bytes.put(x, 47, moved);
    Bytes.put(x, 16, Bytes.headBytes(1, 30));
    Due.is("a row's sum is of its place too", x.open(), -3);
  }

  private static Bytes front() {
    return new Bytes().chunk(0).version(0, 0);
  }

  private static int number(int kind) {
    return kind == 1 || kind == 3 ? 1 : 0;
  }

  private static byte[] text(int kind, int size) {
    byte[] text = new byte[size];
    if (kind == 2 && size > 2) {
      text[2] = 1;
    }
    return text;
  }

  private static Bytes good(Bytes log, int kind) {
    int[] sizes = {64, 3, 16, 10, 0};
    return log.row(kind, number(kind), text(kind, sizes[kind - 1]));
  }

  private static void chunks() {
    opens("a chunk alone", new Bytes().chunk(3, 1, 2, 3), 0);
    lastIsBad("a chunk that is not of the room", new Bytes().chunk(4), 1);
    lastIsBad("a chunk of a great number", new Bytes().chunk(65535), 1);
    opens("a chunk twice, named by none", new Bytes().chunk(2, 1).chunk(2, 5).version(0, 2), 1);
    lastIsBad("a chunk that is named", new Bytes().chunk(2, 1).version(0, 2).chunk(2, 1), 3);
    opens("a chunk named by one that is dropped", new Bytes().chunk(2, 1).version(0, 2).drop(0).chunk(2, 7), 0);
    lastIsBad("named by another still",
        new Bytes().chunk(2, 1).version(0, 2).version(1, 2).drop(0).chunk(2, 7), 5);
    opens("named by none of two", new Bytes().chunk(2).version(0, 2).version(1, 2).drop(0).drop(1).chunk(2), 0);
    GraphLog x = new Bytes().chunk(2, 1).chunk(2, 6).version(0, 2).onNew(4);
    x.open();
    Due.is("the later bytes count", x.has(0, 0, 1) && x.has(0, 0, 2) && !x.has(0, 0, 0), true);
    Due.is("in each part", x.has(0, 56, 2), true);
    Due.is("named once", x.named(2), 1);
    GraphLog wide = new Bytes().chunk(65535, 1).version(0, 65535).onNew(65536);
    Due.is("the greatest number opens", wide.open(), 1);
    Due.is("the greatest number", wide.chunk(0, 7), 65535);
    Due.is("is named", wide.named(65535), 1);
    wide.edge(0, 0, true);
    wide.version();
    Due.is("what is alike has that number", wide.chunk(1, 0), 65535);
    Due.is("what is new the least", wide.chunk(1, 1), 0);
  }

  private static void changes() {
    opens("a change", new Bytes().change(0, 63, 63, 1), 0);
    opens("an edge comes and goes", new Bytes().change(0, 5, 6, 1).change(1, 5, 6, 0), 0);
    lastIsBad("a change's number", new Bytes().change(1, 0, 0, 1), 1);
    lastIsBad("a second change's number", new Bytes().change(0, 0, 0, 1).change(0, 1, 1, 1), 2);
    lastIsBad("a number of more than a byte", new Bytes().change(256, 0, 0, 1), 1);
    lastIsBad("no node", new Bytes().change(0, 64, 0, 1), 1);
    lastIsBad("no other node", new Bytes().change(0, 0, 64, 1), 1);
    lastIsBad("node 255", new Bytes().change(0, 255, 0, 1), 1);
    lastIsBad("other node 255", new Bytes().change(0, 0, 255, 1), 1);
    lastIsBad("an edge goes that is not there", new Bytes().change(0, 0, 0, 0), 1);
    lastIsBad("an edge comes that is there", new Bytes().change(0, 0, 0, 1).change(1, 0, 0, 1), 2);
    lastIsBad("neither comes nor goes", new Bytes().change(0, 0, 0, 2), 1);
    lastIsBad("neither, and it is there", new Bytes().change(0, 0, 0, 1).change(1, 0, 0, 2), 2);
    lastIsBad("neither, of a high bit", new Bytes().change(0, 0, 0, 0x81), 1);
  }

  private static void versions() {
    opens("a version of what never was NOW", new Bytes().chunk(0, 5).version(0, 0), 1);
    lastIsBad("a version's number", new Bytes().chunk(0).version(1, 0), 2);
    lastIsBad("a second version's number", new Bytes().chunk(0).version(0, 0).version(0, 0), 3);
    lastIsBad("a number counts those that are dropped", new Bytes().chunk(0).version(0, 0).drop(0).version(0, 0), 4);
    opens("as many as came", new Bytes().chunk(0).version(0, 0).drop(0).version(1, 0), 1);
    lastIsBad("no chunk came", new Bytes().version(0, 0), 1);
    for (int g = 0; g < 8; g++) {
      int[] numbers = new int[8];
      numbers[g] = 1;
      lastIsBad("chunk " + g + " did not come", new Bytes().chunk(0).version(0, numbers), 2);
      numbers[g] = 256;
      lastIsBad("chunk " + g + " is of two bytes", new Bytes().chunk(0).version(0, numbers), 2);
      numbers[g] = 3;
      opens("chunk " + g + " came", new Bytes().chunk(3).chunk(0).version(0, numbers), 1);
    }
    Bytes log = new Bytes().chunk(0);
    for (int i = 0; i < 100; i++) {
      log.version(i, 0);
    }
    opens("100 versions", log, 100);
    lastIsBad("a version more", log.version(100, 0), 102);
  }

  private static void answers() {
    opens("an answer", front().answer(0, 0, 63, 0), 1);
    GraphLog x = front().answer(0, 0, 63, 0x123456789ABCDEF0L).onNew(4);
    x.open();
    Due.is("its mask is what the row tells", x.mask(0), 0x123456789ABCDEF0L);
    lastIsBad("an answer's number", front().answer(1, 0, 0, 1), 3);
    lastIsBad("a second answer's number", front().answer(0, 0, 0, 1).answer(0, 0, 0, 1), 4);
    lastIsBad("no such version", front().answer(0, 1, 0, 1), 3);
    lastIsBad("version 255", front().answer(0, 255, 0, 1), 3);
    lastIsBad("a version that is dropped", front().drop(0).answer(0, 0, 0, 1), 4);
    lastIsBad("no node", front().answer(0, 0, 64, 1), 3);
    lastIsBad("node 255", front().answer(0, 0, 255, 1), 3);
    Bytes log = front();
    for (int i = 0; i < 100; i++) {
      log.answer(i, 0, i % 64, i);
    }
    opens("100 answers", log, 1);
    lastIsBad("an answer more", log.answer(100, 0, 0, 1), 103);
  }

  private static void drops() {
    opens("a drop", front().drop(0), 0);
    lastIsBad("a drop of none", new Bytes().drop(0), 1);
    lastIsBad("a drop of one that is not yet", front().drop(1), 3);
    lastIsBad("a drop twice", front().drop(0).drop(0), 4);
    lastIsBad("a drop of two bytes", front().drop(256), 3);
    lastIsBad("a drop of 65535", front().drop(65535), 3);
  }

  /** A log that no calls wrote may name two chunks that are alike. */
  private static void alikeByHand() {
    GraphLog x = new Bytes().chunk(3, 9).chunk(1, 9).chunk(2).version(0, 3, 2, 1, 2).onNew(4);
    Due.is("two chunks that are alike", x.open(), 1);
    Due.is("both are named", x.told(7), 3);
    Due.is("each has its number", x.chunk(0, 0) * 10 + x.chunk(0, 2), 31);
    x.edge(0, 0, true);
    x.edge(0, 3, true);
    x.version();
    Due.is("the least of them is taken", x.chunk(1, 0), 1);
    Due.is("nothing is new", x.told(8), 7);
    GraphLog y = new Bytes().chunk(0, 9).chunk(1).onNew(4);
    Due.is("chunks that none names", y.open(), 0);
    Due.is("they do not count", y.told(7), 0);
    y.version();
    Due.is("a chunk that came, but that none names, is new", y.chunk(0, 0), 0);
    Due.is("it is written", y.told(8), 4);
    Due.is("and right", y.badAt(), NONE);
  }

  /** As many chunks as a log has room for. */
  private static void mostChunks() {
    Bytes log = new Bytes();
    int[] numbers = new int[8];
    for (int i = 0; i < 315; i++) {
      log.chunk(i * 200, i);
      numbers[i % 8] = i * 200;
    }
    log.version(0, numbers);
    GraphLog x = log.onNew(65536);
    Due.is("315 chunks and a version", x.open(), 1);
    Due.is("eight of them are named", x.told(7), 8);
    Due.is("the last one", x.chunk(0, 314 % 8), 314 * 200);
    Due.is("its edges", x.differ(0, NONE), 39);
    Due.is("there is no room for a version more", x.version(), GraphLog.FULL);
    Bytes named = new Bytes();
    for (int v = 0; v < 36; v++) {
      int[] eight = new int[8];
      for (int g = 0; g < 8; g++) {
        eight[g] = 8 * v + g;
        named.chunk(eight[g], eight[g] + 1);
      }
      named.version(v, eight);
    }
    GraphLog y = named.onNew(65536);
    Due.is("288 chunks that are named", y.open(), 36);
    Due.is("all are", y.told(7), 288);
    y.edge(63, 63, true);
    Due.is("a version behind them", y.version(), 36);
    Due.is("its chunks have the least numbers that are free", y.chunk(36, 0) * 1000 + y.chunk(36, 7), 288289);
    Due.is("drop of a whole version", y.drop(7), 8);
    y.edge(0, 40, true);
    Due.is("one more", y.version(), 37);
    Due.is("a number in their midst", y.chunk(37, 0), 56);
    Due.is("it is right", y.badAt(), NONE);
  }

  /** A head that was wrong for a time keeps more than was written since: other rows, with old ones behind. */
  private static void oldRowsBehind() {
    GraphLog x = new GraphLog();
    x.begin(4);
    x.keep();
    x.edge(0, 1, true);
    x.edge(2, 3, true);
    x.version();
    x.keep();
    x.poke(0, 1);
    Due.is("the older head", x.open(), 0);
    Due.is("tells of nothing", x.told(3), 0);
    x.edge(4, 5, true);
    x.poke(0, 1);
    Due.is("the later head again", x.open(), 1);
    Due.is("the first row is the new one", x.has(NONE, 4, 5) && !x.has(NONE, 0, 1), true);
    Due.is("the rest is as it was", x.has(NONE, 2, 3) && x.has(0, 0, 1) && x.has(0, 2, 3), true);
    Due.is("the version is not NOW", x.differ(0, NONE), 2);
    Due.is("all rows are right", x.badAt(), NONE);
  }
}
