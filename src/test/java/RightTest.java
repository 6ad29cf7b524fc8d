/** Logs that no calls wrote: made by hand, put on the disk by poke, and opened; and logs of many chunks. */
public final class RightTest {
  private static final int NONE = GraphLog.NONE, FULL = GraphLog.FULL;
  private static final int[] SIZES = {64, 3, 16, 10, 0};

  public static void main(String[] args) {
    kinds();
    sizes();
    chunks();
    changes();
    versions();
    answers();
    drops();
    alikeByHand();
    namedByNone();
    oldRowsBehind();
    manyChunks();
    Due.end();
  }

  /** What open() says of a log on a new disk with a room of 4. */
  private static void opens(String what, Bytes log, int want) {
    Store s = log.onNew(4);
    Due.is(what, s.open(), want);
    Due.is(what + ": is it open", s.isOpen(), want >= 0 ? 1 : 0);
    if (want >= 0) {
      Due.is(what + ": badAt", s.badAt(), NONE);
    }
  }

  /** The last row of the log is not right, for open() and, in an open store, for badAt(). */
  private static void lastIsBad(String what, Bytes log, int rows) {
    opens(what, log, -2 - (rows - 1));
    Bytes other = rightLogOf(log.length());
    if (other != null) {
      Store s = other.onNew(4);
      Due.is(what + ": right rows are there first", s.open() >= 0, true);
      s.turn(32, other.log(), log.log());
      Due.is(what + ": badAt", s.badAt(), rows - 1);
      s.turn(32, log.log(), other.log());
      Due.is(what + ": badAt, right again", s.badAt(), NONE);
    }
  }

  /** Right rows of so many bytes, so that an open store has a log of that length; null if none were found. */
  private static Bytes rightLogOf(int length) {
    for (int chunks = 0; 76 * chunks <= length; chunks++) {
      for (int versions = 0; versions <= (chunks == 0 ? 0 : 6); versions++) {
        int rest = length - 76 * chunks - 28 * versions;
        if (rest >= 0 && rest % 15 == 0) {
          return rightLog(chunks, versions, rest / 15);
        }
      }
    }
    return null;
  }

  private static Bytes rightLog(int chunks, int versions, int changes) {
    Bytes log = new Bytes();
    for (int i = 0; i < chunks; i++) {
      log.chunk(0);
    }
    for (int i = 0; i < versions; i++) {
      log.version(i, 0);
    }
    for (int i = 0; i < changes; i++) {
      log.change(i, 1, 1, 1 - i % 2);
    }
    return log;
  }

  private static Bytes front() {
    return new Bytes().chunk(0).version(0, 0);
  }

  /** Of a row that is right behind front(). */
  private static int number(int kind) {
    return kind == 1 || kind == 3 ? 1 : 0;
  }

  private static byte[] text(int kind, int size) {
    byte[] text = new byte[size];
    if (kind == 2 && size > 2) {
      text[2] = 1;
    }
    return text;
  }

  private static void kinds() {
    for (int kind = 0; kind < 256; kind++) {
      if (kind < 1 || kind > 5) {
        lastIsBad("kind " + kind, new Bytes().row(kind, 0, new byte[3]), 1);
        lastIsBad("kind " + kind + ", no bytes", new Bytes().row(kind, 0, new byte[0]), 1);
      }
    }
    for (int kind = 1; kind <= 5; kind++) {
      Bytes log = front().row(kind, number(kind), text(kind, SIZES[kind - 1]));
      opens("kind " + kind + " of its size", log, kind == 5 ? 0 : kind == 3 ? 2 : 1);
    }
  }

  private static void sizes() {
    for (int kind = 1; kind <= 5; kind++) {
      int size = SIZES[kind - 1];
      lastIsBad("kind " + kind + ", a byte more", front().row(kind, number(kind), text(kind, size + 1)), 3);
      if (size > 0) {
        lastIsBad("kind " + kind + ", a byte less", front().row(kind, number(kind), text(kind, size - 1)), 3);
      }
      lastIsBad("kind " + kind + ", another size told", front().row(kind, number(kind), size + 1, text(kind, size)), 3);
      lastIsBad("kind " + kind + ", size 255 told", front().row(kind, number(kind), 255, text(kind, size)), 3);
    }
  }

  private static void chunks() {
    opens("a chunk alone", new Bytes().chunk(3, 1, 2, 3), 0);
    lastIsBad("a chunk that is not of the room", new Bytes().chunk(4), 1);
    lastIsBad("a chunk of a great number", new Bytes().chunk(65535), 1);
    opens("a chunk twice, named by none", new Bytes().chunk(2, 1).chunk(2, 5).version(0, 2), 1);
    lastIsBad("a chunk that is named", new Bytes().chunk(2, 1).version(0, 2).chunk(2, 1), 3);
    opens("a chunk named by one that is dropped", new Bytes().chunk(2, 1).version(0, 2).drop(0).chunk(2, 7), 0);
    lastIsBad("named by another still",
        new Bytes().chunk(2, 1).version(0, 2).version(1, 2).drop(0).chunk(2, 7), 5);
    opens("named by none of two", new Bytes().chunk(2).version(0, 2).version(1, 2).drop(0).drop(1).chunk(2), 0);
    Store s = new Bytes().chunk(2, 1).chunk(2, 6).version(0, 2).onNew(4);
    s.open();
    Due.is("the later bytes count", "" + s.has(0, 0, 0) + s.has(0, 0, 1) + s.has(0, 0, 2), "011");
    Due.is("in each part", s.has(0, 56, 2), 1);
    Due.is("named once", s.named(2), 1);
    Store wide = new Bytes().chunk(65535, 1).version(0, 65535).onNew(65536);
    Due.is("the greatest number opens", wide.open(), 1);
    Due.is("the greatest number", wide.chunk(0, 7), 65535);
    Due.is("is named", wide.named(65535), 1);
    wide.edge(0, 0, true);
    wide.version();
    Due.is("what is alike has that number", wide.chunk(1, 0), 65535);
    Due.is("what is new the least", wide.chunk(1, 1), 0);
  }

  private static void changes() {
    opens("a change", new Bytes().change(0, 63, 63, 1), 0);
    opens("an edge comes and goes", new Bytes().change(0, 5, 6, 1).change(1, 5, 6, 0), 0);
    lastIsBad("a change's number", new Bytes().change(1, 0, 0, 1), 1);
    lastIsBad("a second change's number", new Bytes().change(0, 0, 0, 1).change(0, 1, 1, 1), 2);
    lastIsBad("a number of more than a byte", new Bytes().change(256, 0, 0, 1), 1);
    lastIsBad("no node", new Bytes().change(0, 64, 0, 1), 1);
    lastIsBad("no other node", new Bytes().change(0, 0, 64, 1), 1);
    lastIsBad("node 255", new Bytes().change(0, 255, 0, 1), 1);
    lastIsBad("other node 255", new Bytes().change(0, 0, 255, 1), 1);
    lastIsBad("an edge goes that is not there", new Bytes().change(0, 0, 0, 0), 1);
    lastIsBad("an edge comes that is there", new Bytes().change(0, 0, 0, 1).change(1, 0, 0, 1), 2);
    // 1 if it comes, 0 if it goes: any other byte tells neither, and so changes nothing
    for (int on = 2; on < 256; on++) {
      lastIsBad("it neither comes nor goes, " + on, new Bytes().change(0, 0, 0, on), 1);
      lastIsBad("neither, and it is there, " + on, new Bytes().change(0, 0, 0, 1).change(1, 0, 0, on), 2);
    }
  }

  private static void versions() {
    opens("a version of what never was NOW", new Bytes().chunk(0, 5).version(0, 0), 1);
    lastIsBad("a version's number", new Bytes().chunk(0).version(1, 0), 2);
    lastIsBad("a second version's number", new Bytes().chunk(0).version(0, 0).version(0, 0), 3);
    lastIsBad("a number counts those that are dropped", new Bytes().chunk(0).version(0, 0).drop(0).version(0, 0), 4);
    opens("as many as came", new Bytes().chunk(0).version(0, 0).drop(0).version(1, 0), 1);
    lastIsBad("no chunk came", new Bytes().version(0, 0), 1);
    for (int g = 0; g < 8; g++) {
      int[] numbers = new int[8];
      numbers[g] = 1;
      lastIsBad("chunk " + g + " did not come", new Bytes().chunk(0).version(0, numbers), 2);
      numbers[g] = 256;
      lastIsBad("chunk " + g + " is of two bytes", new Bytes().chunk(0).version(0, numbers), 2);
      numbers[g] = 3;
      opens("chunk " + g + " came", new Bytes().chunk(3).chunk(0).version(0, numbers), 1);
    }
  }

  private static void answers() {
    opens("an answer", front().answer(0, 0, 63, 0), 1);
    Store s = front().answer(0, 0, 63, 0x123456789ABCDEF0L).onNew(4);
    s.open();
    Due.is("its mask is what the row tells", s.mask(0), 0x123456789ABCDEF0L);
    lastIsBad("an answer's number", front().answer(1, 0, 0, 1), 3);
    lastIsBad("a second answer's number", front().answer(0, 0, 0, 1).answer(0, 0, 0, 1), 4);
    lastIsBad("no such version", front().answer(0, 1, 0, 1), 3);
    lastIsBad("version 255", front().answer(0, 255, 0, 1), 3);
    lastIsBad("a version that is dropped", front().drop(0).answer(0, 0, 0, 1), 4);
    lastIsBad("no node", front().answer(0, 0, 64, 1), 3);
    lastIsBad("node 255", front().answer(0, 0, 255, 1), 3);
  }

  private static void drops() {
    opens("a drop", front().drop(0), 0);
    lastIsBad("a drop of none", new Bytes().drop(0), 1);
    lastIsBad("a drop of one that is not yet", front().drop(1), 3);
    lastIsBad("a drop twice", front().drop(0).drop(0), 4);
    lastIsBad("a drop of two bytes", front().drop(256), 3);
    lastIsBad("a drop of 65535", front().drop(65535), 3);
  }

  /** A log that no calls wrote may name two chunks that are alike. */
  private static void alikeByHand() {
    Store s = new Bytes().chunk(3, 9).chunk(1, 9).chunk(2).version(0, 3, 2, 1, 2).onNew(4);
    Due.is("two chunks that are alike", s.open(), 1);
    Due.is("both are named", s.told(7), 3);
    Due.is("each has its number", s.chunk(0, 0) * 10 + s.chunk(0, 2), 31);
    s.edge(0, 0, true);
    s.edge(0, 3, true);
    s.version();
    Due.is("the least of them is taken", s.chunk(1, 0), 1);
    Due.is("nothing is new", s.told(8), 7);
  }

  private static void namedByNone() {
    Store s = new Bytes().chunk(0, 9).chunk(1).onNew(4);
    Due.is("chunks that none names", s.open(), 0);
    Due.is("they do not count", s.told(7), 0);
    s.version();
    Due.is("a chunk that came, but that none names, is new", s.chunk(0, 0), 0);
    Due.is("it is written", s.told(8), 4);
    Due.is("and right", s.badAt(), NONE);
  }

  /** A head that was wrong for a time keeps more than was written since: other rows, with old ones behind. */
  private static void oldRowsBehind() {
    Store s = Store.of(4);
    s.keep();
    s.edge(0, 1, true);
    s.edge(2, 3, true);
    s.version();
    s.keep();
    s.poke(0, 1);
    Due.is("the older head", s.open(), 0);
    Due.is("tells of nothing", s.told(3), 0);
    s.edge(4, 5, true);
    s.poke(0, 1);
    Due.is("the later head again", s.open(), 1);
    Due.is("the first row is the new one", "" + s.has(NONE, 4, 5) + s.has(NONE, 0, 1), "10");
    Due.is("the rest is as it was", "" + s.has(NONE, 2, 3) + s.has(0, 0, 1) + s.has(0, 2, 3), "111");
    Due.is("the version is not NOW", s.differ(0, NONE), 2);
    Due.is("all rows are right", s.badAt(), NONE);
  }

  /** So many chunks are named as calls can make, each by one version. */
  private static void manyChunks() {
    Store s = Store.of(65536);
    int made = 0;
    int version = 0;
    while (version != FULL) {
      for (int g = 0; g < 8 && version != FULL; g++) {
        s.edge(8 * g + made % 8, g + 8 * (made / 8), true);
      }
      version = s.version();
      made += version == FULL ? 0 : 1;
    }
    Due.is("versions of eight new chunks", made, 31);
    Due.is("all are named", s.told(7), 248);
    Due.is("the last one's number", s.chunk(30, 7), 247);
    Due.is("drop of a whole version", s.drop(7), 8);
    Due.is("and of another", s.drop(3), 8);
    for (int g = 2; g < 8; g++) {
      s.edge(8 * g + 31 % 8, g + 24, false);
    }
    Due.is("one more", s.version(), 31);
    Due.is("numbers in their midst", s.chunk(31, 0) * 1000 + s.chunk(31, 1), 24025);
    Due.is("the others are those of the version before", s.chunk(31, 2) * 1000 + s.chunk(31, 7), 242247);
    Due.is("it is right", s.badAt(), NONE);
    s.keep();
    Due.is("it opens", s.open(), 30);
    Due.is("chunks that are named", s.told(7), 234);
  }
}
