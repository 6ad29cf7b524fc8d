import java.util.Arrays;

/** The words under 'What it is' and 'Terms', each with a test of its own, on objects of 512 calls at most. */
public final class TermsTest {
  private static final int NONE = GraphLog.NONE, FULL = GraphLog.FULL;
  private static final int[] NO_NODES = {-1, 64, 255, 256, Integer.MAX_VALUE, Integer.MIN_VALUE};
  private static final int[] SIZES = {64, 3, 16, 10, 0};
  private static final int MAX = Integer.MAX_VALUE, KEEPS = 4;
  private static final byte[] ZEROS = {};

  private TermsTest() {}

  public static void main(String[] args) {
    Sentences.run(TermsTest.class);
  }

  // what it is

  @Says(at = "What it is", words = "two heads by turns tell how much is kept, and the power may go behind any byte.")
  static void thePowerMayGoBehindAnyByte() {
    String[] due = whatIsKept(KEEPS);
    int all = due.length - 1;
    for (int left = 0; left <= all; left++) {
      Store s = new Store();
      keepRows(s, KEEPS);
      Due.is("bytes that go, " + left + " stay", s.crash(all - left), all - left);
      Due.is("it opens, " + left + " stay", s.open() >= 0, true);
      Due.is("what is kept, " + left + " stay", known(s), due[left]);
      Due.is("it is right, " + left + " stay", s.badAt(), NONE);
      s.edge(50, 50, true);
      s.version();
      s.keep();
      String again = known(s);
      s.crash(0);
      s.open();
      Due.is("it goes on, " + left + " stay", known(s), again);
    }
  }

  /** For each number of bytes that stay: what is known by the latest head that is whole among them. */
  private static String[] whatIsKept(int keeps) {
    String[] due = new String[keepRows(new Store(), keeps) + 1];
    for (int kept = 0; kept <= keeps; kept++) {
      Store s = new Store();
      int from = keepRows(s, kept);
      Arrays.fill(due, from, due.length, known(s));
    }
    return due;
  }

  /** Rows of each kind, kept by so many heads: how many bytes were written, the last ones being a head's. */
  private static int keepRows(Store s, int keeps) {
    for (int i = 0; i < keeps; i++) {
      s.edges(0, i, 9 + i, 63);
      s.version();
      s.answer(i, 0);
      if (i > 0) {
        s.drop(i - 1);
      }
      s.edge(0, i, false);
      s.keep();
    }
    return s.told(9);
  }

  /** All that is told but what was written since the latest open(). */
  private static String known(Store s) {
    String told = s.toldAll();
    return told.substring(0, told.lastIndexOf(' '));
  }

  @Says(at = "What it is", words = "An object is used for at most 512 calls after it has been made;")
  static void theLastOf512Calls() {
    Store heads = new Store();
    for (int turn = 1; turn <= 510; turn++) {
      Due.is("a head", heads.keep(), turn);
    }
    Due.is("all of them go", heads.crash(MAX), 510 * 16);
    Due.is("the 512th call", heads.open(), 0);
    Store edges = new Store();
    for (int i = 0; i < 511; i++) {
      Due.is("a change", edges.edge(i % 64, i / 64, true), 1);
    }
    Due.is("the 512th call tells of all", edges.told(4), 511);
    Store full = new Store();
    full.fill(0, true);
    int keeps = 0;
    for (; full.calls() < Store.MOST_CALLS - 2; keeps++) {
      full.keep();
    }
    Due.is("a full log, and heads", full.told(9), 24000 + 16 * keeps);
    Due.is("the 512th call takes all back", full.crash(MAX), 24000 + 16 * keeps);
  }

  // graphs

  @Says(at = "Terms", words = "63 and EDGES, from one to one (perhaps itself).")
  static void nodes() {
    int[] nodes = {0, 1, 7, 8, 31, 32, 62, 63};
    Store s = new Store();
    for (int a : nodes) {
      for (int b : nodes) {
        Due.is("from " + a + " to " + b, s.edge(a, b, true), 1);
        Due.is("is there, from " + a + " to " + b, s.has(NONE, a, b), 1);
      }
    }
    Due.is("all of them", s.told(6), 64);
    for (int n : NO_NODES) {
      Due.outside("edge from " + n, () -> s.edge(n, 0, true));
      Due.outside("edge to " + n, () -> s.edge(0, n, true));
      Due.outside("has from " + n, () -> s.has(NONE, n, 0));
      Due.outside("has to " + n, () -> s.has(NONE, 0, n));
      Due.outside("far from " + n, () -> s.far(NONE, n, 0));
      Due.outside("far to " + n, () -> s.far(NONE, 0, n));
    }
  }

  @Says(at = "Terms", words = "NOW is the one that is changed; at first it has none.")
  static void nowHasNoEdgesAtFirst() {
    Due.is("edges at first", new Store().told(6), 0);
    for (int a = 0; a < 64; a += 4) {
      Store s = new Store();
      for (int edge = 64 * a; edge < 64 * a + 256; edge++) {
        Due.is("edge " + edge, s.has(NONE, edge / 64, edge % 64), 0);
      }
    }
    Store s = Store.of(64, 3, 4);
    s.version();
    s.edge(3, 4, false);
    s.edge(4, 3, true);
    Due.is("NOW is changed", 10 * s.has(NONE, 3, 4) + s.has(NONE, 4, 3), 1);
  }

  @Says(at = "Terms", words = "A VERSION is NOW as it was when it was made; its numbers are 0, 1, ..")
  static void versionsAreOfTheirTime() {
    Store s = new Store();
    for (int i = 0; i < 8; i++) {
      s.edge(8 * i, i, true);
      Due.is("the next number", s.version(), i);
    }
    s.edge(0, 0, false);
    for (int v = 0; v < 8; v++) {
      for (int i = 0; i < 8; i++) {
        Due.is("version " + v + ", edge " + i, s.has(v, 8 * i, i), i <= v ? 1 : 0);
      }
    }
    s.drop(7);
    Due.is("a number is not used again", s.version(), 8);
  }

  @Says(at = "Terms", words = "A GRAPH has eight CHUNKS: CHUNK g tells of the NODES 8 g .. 8 g + 7, in order, eight bytes "
      + "each: a long, the highest byte first, whose bit b (1 the lowest, b = 0) is 1 if there is an EDGE to b.")
  static void chunksTellOfEightNodes() {
    int[] targets = {0, 7, 8, 31, 32, 55, 56, 63};
    for (int a = 0; a < 64; a++) {
      int b = targets[a % 8];
      Store s = Store.of(64, a, b);
      s.version();
      // a row of 15 bytes ahead; chunk 0 is new, and so is that with the edge
      int place = 32 + 15 + (a < 8 ? 0 : 76);
      byte[] due = new byte[64];
      due[8 * (a % 8) + 7 - b / 8] = (byte) (1 << b % 8);
      Due.is("the chunk of " + a + " with an edge to " + b, Arrays.toString(s.bytes(place + 4, 64)), Arrays.toString(due));
      for (int g = 0; g < 8; g++) {
        boolean other = a < 8 ? g > 0 : g == a / 8;
        Due.is("node " + a + ", chunk " + g, s.chunk(0, g), other ? 1 : 0);
      }
    }
  }

  @Says(at = "Terms", words = "CHUNKS of VERSIONS that have the same bytes are one, and have a number:")
  static void alikeChunksAreOne() {
    Store s = Store.of(64, 0, 5, 8, 5, 56, 5);
    s.version();
    Due.is("in one version", "" + s.chunk(0, 0) + s.chunk(0, 1) + s.chunk(0, 2) + s.chunk(0, 7), "0010");
    Due.is("two are named", s.told(7), 2);
    s.edge(0, 5, false);
    s.edge(16, 5, true);
    int rows = s.told(8);
    s.version();
    Due.is("in two versions", "" + s.chunk(1, 0) + s.chunk(1, 1) + s.chunk(1, 2) + s.chunk(1, 7), "1000");
    Due.is("but for the version nothing is written", s.told(8), rows + 1);
    s.edge(16, 4, true);
    s.version();
    Due.is("a bit makes another", s.chunk(2, 2), 2);
    Store all = Store.of(1);
    all.version();
    for (int g = 0; g < 8; g++) {
      Due.is("empty chunks are one, " + g, all.chunk(0, g), 0);
    }
  }

  @Says(at = "Terms", words = "a new one the least that no VERSION that is there names.")
  static void newChunksHaveTheLeastNumber() {
    Store s = Store.of(64, 0, 0, 8, 1, 16, 2, 24, 3, 32, 4, 40, 5, 48, 6, 56, 7);
    s.version();
    for (int g = 0; g < 8; g++) {
      Due.is("from 0 on, " + g, s.chunk(0, g), g);
    }
    s.edges(8, 0, 40, 0);
    s.version();
    Due.is("behind those that are named", 100 * s.chunk(1, 1) + s.chunk(1, 5), 809);
    Due.is("two are free then", s.drop(0), 2);
    s.edges(56, 0, 48, 0, 0, 9);
    s.version();
    Due.is("the least first, by g", "" + s.chunk(2, 0) + " " + s.chunk(2, 6) + " " + s.chunk(2, 7), "1 5 10");
    Store none = Store.of(64, 0, 0);
    none.version();
    none.drop(0);
    none.edge(0, 0, false);
    none.version();
    Due.is("what was named once is free", none.chunk(1, 0), 0);
    // a great number that is named leaves the least ones free
    for (int number = 300; number < 340; number++) {
      Store great = Store.of(65536);
      great.turn(32, ZEROS, new Bytes().chunk(number, 9).version(0, number).log());
      great.headOne(104);
      great.open();
      Due.is("behind one with chunk " + number, great.version(), 1);
      Due.is("its number, behind " + number, great.chunk(1, 0), 0);
    }
  }

  @Says(at = "Terms", words = "(CHUNKS are NAMED by the VERSIONS that have them.)")
  static void versionsNameTheirChunks() {
    Store s = Store.of(64, 0, 0);
    Due.is("NOW names none", s.told(7) + s.named(0), 0);
    s.version();
    Due.is("a version names its own", "" + s.named(0) + s.named(1) + s.named(2) + s.told(7), "1102");
    s.edge(0, 0, false);
    s.version();
    Due.is("and another", "" + s.named(0) + s.named(1) + s.named(2) + s.told(7), "1202");
    s.drop(0);
    Due.is("none that is not there", "" + s.named(0) + s.named(1) + s.named(2) + s.told(7), "0101");
  }

  @Says(at = "Terms", words = "An ANSWER is of a VERSION and a NODE: its MASK has a bit for each NODE to which one comes "
      + "from that by EDGES (itself is one).")
  static void masksOfAnswers() {
    Store s = Store.of(64, 0, 63, 63, 31, 31, 32, 32, 63, 40, 0, 7, 7);
    s.version();
    s.edge(0, 1, true);
    s.version();
    s.answer(0, 0);
    s.answer(0, 63);
    s.answer(0, 40);
    s.answer(0, 7);
    s.answer(0, 5);
    s.answer(1, 0);
    long ring = 1L << 63 | 1L << 31 | 1L << 32;
    Due.is("from 0", s.mask(0), ring | 1L);
    Due.is("in a ring", s.mask(1), ring);
    Due.is("from where none comes to", s.mask(2), ring | 1L | 1L << 40);
    Due.is("an edge to itself", s.mask(3), 1L << 7);
    Due.is("no edge: itself is one", s.mask(4), 1L << 5);
    Due.is("of another version", s.mask(5), ring | 3L);
    Store line = new Store();
    for (int i = 0; i < 63; i++) {
      line.edge(i, i + 1, true);
    }
    line.version();
    line.answer(0, 0);
    line.answer(0, 63);
    line.answer(0, 62);
    Due.is("63 edges on end", line.mask(0), -1L);
    Due.is("the end of a line", line.mask(1), Long.MIN_VALUE);
    Due.is("one ahead of it", line.mask(2), 3L << 62);
  }

  @Says(at = "Terms", words = "Their numbers are 0, 1, ..")
  static void numbersOfAnswers() {
    Store s = new Store();
    s.version();
    s.version();
    for (int i = 0; i < 6; i++) {
      Due.is("the next number", s.answer(i % 2, 9), i);
    }
    s.drop(0);
    Due.is("also behind a drop", s.answer(1, 9), 6);
  }

  // the disk

  @Says(at = "Terms", words = "THE DISK has 24032 bytes, 0 at first.")
  static void theDisk() {
    for (int from = 16; from < 24032; from += 512) {
      Store s = new Store();
      for (int place = from; place < Math.min(from + 512, 24032); place++) {
        Due.is("byte " + place, s.byteAt(place), 0);
      }
    }
    Store s = new Store();
    Due.is("the last byte", s.poke(24031, 1), 0);
    Due.outside("the byte behind it", () -> s.byteAt(24032));
    Due.outside("turned", () -> s.poke(24032, 1));
    Due.outside("the byte before the first", () -> s.byteAt(-1));
  }

  @Says(at = "Terms", words = "Two HEADS are at 0 and 16: TURN (4 bytes), LENGTH (4), SUM (8).")
  static void theHeads() {
    Store s = Store.of(64, 0, 1);
    s.keep();
    Due.is("at 0", s.stands(0, Bytes.headBytes(0, 0)), true);
    Due.is("at 16", s.stands(16, Bytes.headBytes(1, 15)), true);
    Due.is("its turn", Arrays.toString(s.bytes(16, 8)), "[0, 0, 0, 1, 0, 0, 0, 15]");
    Due.is("the log comes behind it", s.byteAt(32), 2);
  }

  @Says(at = "Terms", words = "From 32 on there is the LOG: ROWS, one behind the other: KIND (1 byte), NUMBER (2), "
      + "SIZE (1), so many bytes, SUM (8).")
  static void theLog() {
    Store s = Store.of(64, 9, 8);
    s.edge(9, 8, false);
    Due.is("the first row", Arrays.toString(s.bytes(32, 7)), "[2, 0, 0, 3, 9, 8, 1]");
    Due.is("the second row", Arrays.toString(s.bytes(47, 7)), "[2, 0, 1, 3, 9, 8, 0]");
    Due.is("both", s.stands(32, new Bytes().change(0, 9, 8, 1).change(1, 9, 8, 0).log()), true);
    Due.is("nothing is behind them", s.byteAt(62), 0);
  }

  @Says(at = "Terms", words = "Numbers have the highest byte first, and no sign.")
  static void numbersHaveNoSign() {
    Store s = Store.of(64);
    for (int i = 0; i < 300; i++) {
      s.edge(i % 64, i / 64, true);
    }
    s.keep();
    byte[] last = Bytes.rowBytes(32 + 299 * 15, 2, 299, 3, Bytes.changeText(299 % 64, 299 / 64, 1));
    Due.is("change 299", s.stands(32 + 299 * 15, last), true);
    Due.is("a length of 4500", s.stands(16, Bytes.headBytes(1, 4500)), true);
    Due.is("300 changes open", s.open(), 0);
    Due.is("300 edges", s.told(6), 300);
    Store high = new Store();
    high.turn(0, Bytes.headBytes(0, 0), Bytes.headBytes(0x80FF00FEL, 0));
    high.open();
    Due.is("a turn with its highest bit", high.told(5), 0x80FF00FE);
    high.keep();
    Due.is("the turn behind it", high.stands(16, Bytes.headBytes(0x80FF00FFL, 0)), true);
    Store wide = new Store();
    wide.begin(65536);
    wide.turn(32, ZEROS, new Bytes().chunk(65534, -1L).chunk(0x8001, 1L).version(0, 65534, 0x8001).log());
    wide.headOne(180);
    Due.is("chunks of great numbers", wide.open(), 1);
    Due.is("their numbers", wide.chunk(0, 0) + " " + wide.chunk(0, 7), "65534 32769");
    Due.is("a long of ones", wide.has(0, 0, 63) + wide.has(0, 0, 0) + wide.has(0, 8, 0) + wide.has(0, 8, 63), 3);
  }

  @Says(at = "Terms", words = "SUM of bytes: s, and with each byte b in turn s becomes "
      + "rotl(s ^ b, 29) * 0xC2B2AE3D27D4EB4F (of 64 bits):")
  static void theSum() {
    Store s = new Store();
    // worked out by hand: 1 ^ 0 turned by 29, times the factor, and so on for eight bytes of 0
    long sum = 1;
    for (int i = 0; i < 8; i++) {
      sum = Long.rotateLeft(sum, 29) * 0xC2B2AE3D27D4EB4FL;
    }
    for (int i = 0; i < 8; i++) {
      Due.is("byte " + i + " of the first head's sum", s.byteAt(8 + i), (int) (sum >>> (56 - 8 * i)) & 255);
    }
    // bytes above 127 are numbers without a sign
    for (int b = 0; b < 64; b++) {
      s.edge(3, b, true);
    }
    s.version();
    byte[] due = new Bytes().chunk(0, 0, 0, 0, -1L).log();
    int place = 32 + 64 * 15;
    Due.is("a chunk with bytes of 255",
        s.stands(place, Bytes.rowBytes(place, 1, 0, 64, Arrays.copyOfRange(due, 4, 68))), true);
    Due.is("badAt works it out alike", s.badAt(), NONE);
  }

  @Says(at = "Terms", words = "of a HEAD its first eight bytes, s being 1 at first;")
  static void theSumOfAHead() {
    Store s = Store.of(64, 0, 1);
    s.keep();
    byte[] head = s.bytes(16, 16);
    long sum = Bytes.sum(Arrays.copyOf(head, 8), 1);
    Due.is("the sum of a head", s.stands(24, longBytes(sum)), true);
    // the same bytes with a sum that starts elsewhere
    s.turn(24, longBytes(sum), longBytes(Bytes.sum(Arrays.copyOf(head, 8), 16)));
    s.open();
    Due.is("a sum from 16 on is not right", s.told(5), 0);
    Store nothing = new Store();
    nothing.turn(0, Bytes.headBytes(0, 0), new byte[16]);
    Due.is("a sum of 0 is not right", nothing.open(), NONE);
  }

  private static byte[] longBytes(long value) {
    java.io.ByteArrayOutputStream bytes = new java.io.ByteArrayOutputStream();
    Bytes.number(bytes, value, 8);
    return bytes.toByteArray();
  }

  @Says(at = "Terms", words = "of a ROW all ahead of it, s being its place on the DISK at first.")
  static void theSumOfARow() {
    Store s = Store.of(64, 0, 1);
    s.edge(0, 2, true);
    byte[] second = s.bytes(47, 15);
    Due.is("the sum starts with 47", s.stands(54, longBytes(Bytes.sum(Arrays.copyOf(second, 7), 47))), true);
    s.keep();
    s.turn(47, second, Bytes.rowBytes(32, 2, 1, 3, Bytes.changeText(0, 2, 1)));
    Due.is("a row of another place", s.badAt(), 1);
    Due.is("a row of another place, opened", s.open(), -3);
    Store empty = Store.of(64);
    empty.version();
    empty.drop(0);
    byte[] drop = empty.bytes(32 + 104, 12);
    long sum = Bytes.sum(Arrays.copyOf(drop, 4), 32 + 104);
    Due.is("a row of no bytes has a sum of its front", empty.stands(32 + 108, longBytes(sum)), true);
  }

  @Says(at = "Terms", words = "KIND 1, CHUNK: its number; 64 bytes.")
  static void kindChunk() {
    Store s = Store.of(64, 7, 63, 0, 0);
    s.version();
    s.edge(7, 63, false);
    s.version();
    Due.is("the first", s.stands(62, Bytes.rowBytes(62, 1, 0, 64, Bytes.chunkText(1, 0, 0, 0, 0, 0, 0, 1L << 63))), true);
    Due.is("the second", s.stands(138, Bytes.rowBytes(138, 1, 1, 64, Bytes.chunkText())), true);
    Due.is("the third", s.stands(257, Bytes.rowBytes(257, 1, 2, 64, Bytes.chunkText(1))), true);
  }

  @Says(at = "Terms", words = "2, CHANGE: how many CHANGES came before it; a, b, and 1 if the EDGE from a to b comes, "
      + "0 if it goes.")
  static void kindChange() {
    Store s = Store.of(64, 63, 0);
    s.edge(63, 0, true);
    s.edge(63, 0, false);
    s.edge(0, 63, false);
    s.edge(0, 63, true);
    byte[] due = new Bytes().change(0, 63, 0, 1).change(1, 63, 0, 0).change(2, 0, 63, 1).log();
    Due.is("three changes of five calls", s.stands(32, due), true);
    Due.is("and no more", s.told(3), 45);
    s.version();
    s.edge(1, 1, true);
    byte[] next = Bytes.rowBytes(32 + 45 + 180, 2, 3, 3, Bytes.changeText(1, 1, 1));
    Due.is("other rows do not count", s.stands(32 + 45 + 180, next), true);
  }

  @Says(at = "Terms", words = "3, VERSION: its number; the numbers of its eight CHUNKS, 2 bytes each.")
  static void kindVersion() {
    Store s = Store.of(64, 0, 0, 63, 63);
    s.version();
    int place = 32 + 30 + 3 * 76;
    Due.is("the first", s.stands(place, Bytes.rowBytes(place, 3, 0, 16, Bytes.versionText(0, 1, 1, 1, 1, 1, 1, 2))), true);
    s.version();
    Due.is("the second", s.stands(place + 28, Bytes.rowBytes(place + 28, 3, 1, 16, Bytes.versionText(0, 1, 1, 1, 1, 1, 1, 2))), true);
    Store wide = new Store();
    wide.begin(65536);
    wide.turn(32, ZEROS, new Bytes().chunk(0xABCD, 1).chunk(0x00FF).chunk(0xFF00, 2).version(0, 0xABCD, 0xFF, 0xFF00).log());
    wide.headOne(256);
    wide.open();
    wide.edge(56, 0, true);
    Due.is("the next", wide.version(), 1);
    Due.is("numbers of two bytes", wide.stands(32 + 271, Bytes.rowBytes(32 + 271, 3, 1, 16,
        Bytes.versionText(0xFF, 0xFF, 0xFF, 0xFF, 0xFF, 0xFF, 0xFF, 0xABCD))), true);
  }

  @Says(at = "Terms", words = "4, ANSWER: its number; its VERSION (1 byte), its NODE (1), its MASK (8).")
  static void kindAnswer() {
    Store s = Store.of(64, 62, 63);
    s.version();
    s.version();
    s.answer(1, 62);
    s.answer(0, 63);
    int place = 32 + s.told(3) - 44;
    Due.is("the first", s.stands(place, Bytes.rowBytes(place, 4, 0, 10, Bytes.answerText(1, 62, 3L << 62))), true);
    Due.is("the second", s.stands(place + 22, Bytes.rowBytes(place + 22, 4, 1, 10, Bytes.answerText(0, 63, 1L << 63))), true);
  }

  @Says(at = "Terms", words = "5, DROP: the number of a VERSION, which is there no more; no bytes.")
  static void kindDrop() {
    Store s = Store.of(64);
    s.version();
    s.version();
    s.drop(1);
    int place = 32 + s.told(3) - 12;
    Due.is("its row", s.stands(place, Bytes.rowBytes(place, 5, 1, 0, new byte[0])), true);
    Due.outside("it is there no more", () -> s.drop(1));
    Due.is("the other is", s.drop(0), 1);
  }

  @Says(at = "Terms", words = "Calls WRITE bytes one by one, ROWS behind the LOG as it is;")
  static void callsWriteByteByByte() {
    byte[] before = new Bytes().change(0, 1, 2, 1).log();
    byte[] row = Bytes.rowBytes(47, 2, 1, 3, Bytes.changeText(3, 4, 1));
    for (int n = 0; n <= 15; n++) {
      Store s = Store.of(64, 1, 2, 3, 4);
      Due.is("the last bytes go, " + n, s.crash(n), n);
      Due.is("the row ahead stays, " + n, s.stands(32, before), true);
      Due.is("its first bytes stay, " + n, s.stands(47, Arrays.copyOf(Arrays.copyOf(row, 15 - n), 15)), true);
    }
    Store s = Store.of(64, 1, 2);
    s.keep();
    s.edge(3, 4, true);
    s.open();
    s.edge(5, 6, true);
    Due.is("behind the log, not behind what was written",
        s.stands(47, Bytes.rowBytes(47, 2, 1, 3, Bytes.changeText(5, 6, 1))), true);
    Due.is("nothing more", s.told(3), 30);
  }

  @Says(at = "Terms", words = "a HEAD is WRITTEN at 16 if its TURN is odd, at 0 if it is even.")
  static void headsByTurns() {
    Store s = new Store();
    byte[][] at = {Bytes.headBytes(0, 0), new byte[16]};
    for (int turn = 1; turn <= 6; turn++) {
      s.edge(turn, turn, true);
      s.keep();
      at[turn % 2] = Bytes.headBytes(turn, 15 * turn);
      Due.is("that at 0 behind turn " + turn, s.stands(0, at[0]), true);
      Due.is("that at 16 behind turn " + turn, s.stands(16, at[1]), true);
    }
  }

  @Says(at = "Terms", words = "The LOG has 24000 bytes at most.")
  static void theLogEnds() {
    Store s = new Store();
    s.fill(15, false);
    Due.is("the last row", s.edge(4, 4, true), 1);
    Due.is("24000 bytes", s.told(3), 24000);
    Due.is("to the disk's last byte", s.badAt(), NONE);
    s.keep();
    Due.is("it opens", s.open() > 0, true);
    Due.is("and has 24000 bytes", s.told(3), 24000);
    Due.is("no row more", s.edge(5, 5, true), FULL);
  }

  // rows that are right

  /** A store with a room of 4: chunks 0 (no edges) and 1, and version 0 that has both; then one row by hand. */
  private static Store front() {
    Store s = Store.of(4, 0, 1);
    s.version();
    return s;
  }

  /** The row is put behind a right log, kept, and opened: so many versions, or the row's number told. */
  private static void row(String what, Store s, int kind, int number, byte[] text, boolean right) {
    int rows = s.told(8);
    int there = s.told(0) + (kind == 3 ? 1 : kind == 5 ? -1 : 0);
    s.addRow(kind, number, text.length, text);
    Due.is(what, s.open(), right ? there : -2 - rows);
    Due.is(what + ", is it open", s.isOpen(), right ? 1 : 0);
    if (right) {
      Due.is(what + ", badAt", s.badAt(), NONE);
      Due.is(what + ", rows", s.told(8), rows + 1);
    }
  }

  /** The last row, which a call wrote, is made another of its size, with a right sum: badAt tells of it. */
  private static void lastRow(String what, Store s, int kind, int number, byte[] text, boolean right) {
    int size = SIZES[kind - 1];
    int place = 32 + s.told(3) - size - 12;
    int rows = s.told(8);
    byte[] was = s.bytes(place, size + 12);
    s.turn(place, was, Bytes.rowBytes(place, kind, number, size, text));
    Due.is(what + ", in an open store", s.badAt(), right ? NONE : rows - 1);
  }

  @Says(at = "Terms", words = "A ROW is RIGHT if its SUM is;")
  static void rightBySum() {
    for (int i = 0; i < 27; i++) {
      Store s = Store.of(64);
      s.edge(1, 2, true);
      s.edge(3, 4, true);
      s.keep();
      // one bit of each byte of the second row, then of the last of the first one
      int place = i < 15 ? 47 + i : 32 + i - 12;
      int due = i < 15 ? 1 : 0;
      s.poke(place, 1 << i % 8);
      Due.is("badAt, a bit at " + place, s.badAt(), due);
      Due.is("open, a bit at " + place, s.open(), -2 - due);
      s.poke(place, 1 << i % 8);
      Due.is("it is right again", s.open(), 0);
    }
  }

  @Says(at = "Terms", words = "its KIND is told above,")
  static void rightByKind() {
    int[] kinds = {0, 6, 7, 128, 129, 130, 131, 132, 133, 255};
    for (int kind : kinds) {
      for (int size : SIZES) {
        Store s = front();
        s.addRow(kind, 0, size, new byte[size]);
        Due.is("kind " + kind + " of size " + size, s.open(), -2 - 4);
      }
    }
    for (int kind = 1; kind <= 5; kind++) {
      row("kind " + kind, front(), kind, rightNumber(kind), rightText(kind), true);
    }
  }

  /** Of a row that is right behind front(). */
  private static int rightNumber(int kind) {
    return kind == 1 ? 3 : kind == 2 || kind == 3 ? 1 : 0;
  }

  private static byte[] rightText(int kind) {
    byte[] text = new byte[SIZES[kind - 1]];
    if (kind == 2) {
      text[2] = 1;
    }
    return text;
  }

  @Says(at = "Terms", words = "its SIZE that of it,")
  static void rightBySize() {
    for (int kind = 1; kind <= 5; kind++) {
      int size = SIZES[kind - 1];
      byte[] text = rightText(kind);
      int[] others = {size - 1, size + 1, 0, 3, 10, 16, 64, 255};
      for (int other : others) {
        if (other >= 0 && other != size) {
          Store told = front();
          told.addRow(kind, rightNumber(kind), other, text);
          Due.is("kind " + kind + " tells a size of " + other, told.open(), -2 - 4);
          Store has = front();
          has.addRow(kind, rightNumber(kind), other, Arrays.copyOf(text, other));
          Due.is("kind " + kind + " has a size of " + other, has.open(), -2 - 4);
        }
      }
    }
  }

  @Says(at = "Terms", words = "and it ends where the LOG does, or before;")
  static void rightByItsEnd() {
    byte[] log = new Bytes().change(0, 1, 2, 1).change(1, 3, 4, 1).log();
    for (int length = 0; length <= 42; length++) {
      Store s = new Store();
      s.turn(32, ZEROS, log);
      s.headOne(length);
      Due.is("a length of " + length, s.open(), length == 0 || length == 15 || length == 30 ? 0 : -2 - length / 15);
    }
    for (int kind = 1; kind <= 5; kind++) {
      Store s = front();
      int length = s.told(3);
      byte[] row = Bytes.rowBytes(32 + length, kind, rightNumber(kind), SIZES[kind - 1], rightText(kind));
      s.turn(32 + length, ZEROS, row);
      s.headOne(length + row.length - 1);
      Due.is("kind " + kind + ", the log ends a byte ahead", s.open(), -2 - 4);
      s.turn(16, Bytes.headBytes(1, length + row.length - 1), Bytes.headBytes(1, length + row.length));
      Due.is("kind " + kind + ", the log ends where it does", s.open() >= 0, true);
    }
  }

  @Says(at = "Terms", words = "of a CHUNK its number is below the room,")
  static void rightChunkNumber() {
    row("the last of the room", front(), 1, 3, Bytes.chunkText(5), true);
    row("the room", front(), 1, 4, Bytes.chunkText(5), false);
    row("far above the room", front(), 1, 65535, Bytes.chunkText(5), false);
    row("of the lowest byte alone", front(), 1, 256 + 3, Bytes.chunkText(5), false);
    Store one = Store.of(1);
    row("0, a room of 1", one, 1, 0, Bytes.chunkText(5), true);
    row("1, a room of 1", Store.of(1), 1, 1, Bytes.chunkText(5), false);
    row("65535, a room of 65536", Store.of(65536), 1, 65535, Bytes.chunkText(5), true);
    row("65535, a room of 65535", Store.of(65535), 1, 65535, Bytes.chunkText(5), false);
    row("65534, a room of 65535", Store.of(65535), 1, 65534, Bytes.chunkText(5), true);
  }

  @Says(at = "Terms", words = "and no VERSION that is there names it;")
  static void rightChunkIsNotNamed() {
    row("one that is named", front(), 1, 1, Bytes.chunkText(5), false);
    row("one that is named, with the same bytes", front(), 1, 1, Bytes.chunkText(), false);
    Store dropped = front();
    dropped.drop(0);
    row("none that is there names it", dropped, 1, 1, Bytes.chunkText(5), true);
    Store two = front();
    two.version();
    two.drop(0);
    row("another names it", two, 1, 1, Bytes.chunkText(5), false);
    Store both = front();
    both.version();
    both.drop(1);
    both.drop(0);
    row("neither is there", both, 1, 1, Bytes.chunkText(5), true);
    Store came = front();
    came.turn(32 + 195, ZEROS, Bytes.rowBytes(227, 1, 2, 64, Bytes.chunkText(7)));
    came.turn(32 + 271, ZEROS, Bytes.rowBytes(303, 1, 2, 64, Bytes.chunkText(9)));
    came.headOne(347);
    Due.is("it came, but none names it", came.open(), 1);
    Due.is("it is named by none", came.named(2), 0);
  }

  @Says(at = "Terms", words = "of a CHANGE its number is as told,")
  static void rightChangeNumber() {
    row("as many as came before", front(), 2, 1, Bytes.changeText(5, 5, 1), true);
    row("one less", front(), 2, 0, Bytes.changeText(5, 5, 1), false);
    row("one more", front(), 2, 2, Bytes.changeText(5, 5, 1), false);
    row("of the lowest byte alone", front(), 2, 257, Bytes.changeText(5, 5, 1), false);
    row("the first", Store.of(4), 2, 0, Bytes.changeText(5, 5, 1), true);
    row("the first has 1", Store.of(4), 2, 1, Bytes.changeText(5, 5, 1), false);
    lastRow("one more", Store.of(4, 1, 1, 2, 2), 2, 2, Bytes.changeText(2, 2, 1), false);
    lastRow("another change", Store.of(4, 1, 1, 2, 2), 2, 1, Bytes.changeText(2, 3, 1), true);
  }

  @Says(at = "Terms", words = "both are NODES,")
  static void rightChangeNodes() {
    row("the last nodes", front(), 2, 1, Bytes.changeText(63, 63, 1), true);
    int[] none = {64, 65, 127, 128, 192, 255};
    for (int n : none) {
      row("from " + n, front(), 2, 1, Bytes.changeText(n, 5, 1), false);
      row("to " + n, front(), 2, 1, Bytes.changeText(5, n, 1), false);
      lastRow("from " + n, Store.of(4, 1, 1), 2, 0, Bytes.changeText(n, 5, 1), false);
      lastRow("to " + n, Store.of(4, 1, 1), 2, 0, Bytes.changeText(5, n, 1), false);
    }
  }

  @Says(at = "Terms", words = "and it changes NOW;")
  static void rightChangeChanges() {
    row("it comes", front(), 2, 1, Bytes.changeText(0, 2, 1), true);
    row("it goes", front(), 2, 1, Bytes.changeText(0, 1, 0), true);
    row("it comes, but is there", front(), 2, 1, Bytes.changeText(0, 1, 1), false);
    row("it goes, but is not there", front(), 2, 1, Bytes.changeText(0, 2, 0), false);
    row("it neither comes nor goes", front(), 2, 1, Bytes.changeText(0, 2, 2), false);
    Store gone = front();
    gone.edge(0, 1, false);
    row("the version has it, NOW has not", gone, 2, 2, Bytes.changeText(0, 1, 1), true);
    lastRow("it goes, but is not there", Store.of(4, 1, 1), 2, 0, Bytes.changeText(1, 1, 0), false);
    lastRow("it comes, but is there", Store.of(4, 1, 1, 2, 2), 2, 1, Bytes.changeText(1, 1, 1), false);
    lastRow("it goes", Store.of(4, 1, 1, 2, 2), 2, 1, Bytes.changeText(1, 1, 0), true);
  }

  @Says(at = "Terms", words = "of a VERSION its number is as many as came,")
  static void rightVersionNumber() {
    row("as many as came", front(), 3, 1, Bytes.versionText(0, 1), true);
    row("one less", front(), 3, 0, Bytes.versionText(0, 1), false);
    row("one more", front(), 3, 2, Bytes.versionText(0, 1), false);
    row("of the lowest byte alone", front(), 3, 257, Bytes.versionText(0, 1), false);
    Store dropped = front();
    dropped.drop(0);
    row("not as many as are there", dropped, 3, 0, Bytes.versionText(0, 1), false);
    Store again = front();
    again.drop(0);
    row("one that is dropped came too", again, 3, 1, Bytes.versionText(0, 1), true);
    Store two = front();
    two.version();
    lastRow("one less", two, 3, 0, Bytes.versionText(0, 1), false);
  }

  @Says(at = "Terms", words = "below 100, and each of its CHUNKS came;")
  static void rightVersionsAreBelow100() {
    Store s = hundredVersions(99);
    row("the hundredth", s, 3, 99, Bytes.versionText(0), true);
    row("one more", hundredVersions(100), 3, 100, Bytes.versionText(0), false);
    Store less = hundredVersions(100);
    for (int v = 0; v < 100; v++) {
      less.drop(v);
    }
    row("one more, though none is there", less, 3, 100, Bytes.versionText(0), false);
  }

  private static Store hundredVersions(int count) {
    Store s = Store.of(4);
    for (int v = 0; v < count; v++) {
      Due.is("version " + v, s.version(), v);
    }
    return s;
  }

  @Says(at = "Terms", words = "each of its CHUNKS came;")
  static void rightVersionChunksCame() {
    row("no chunk came", Store.of(4), 3, 0, Bytes.versionText(0), false);
    for (int g = 0; g < 8; g++) {
      int[] numbers = new int[8];
      numbers[g] = 2;
      row("chunk " + g + " did not come", front(), 3, 1, Bytes.versionText(numbers), false);
      numbers[g] = 257;
      row("chunk " + g + " of two bytes did not", front(), 3, 1, Bytes.versionText(numbers), false);
      numbers[g] = 1;
      row("chunk " + g + " came", front(), 3, 1, Bytes.versionText(numbers), true);
      Store two = front();
      two.version();
      numbers[g] = 3;
      lastRow("chunk " + g + " did not come", two, 3, 1, Bytes.versionText(numbers), false);
    }
    Store dropped = front();
    dropped.drop(0);
    row("they came, though none names them", dropped, 3, 1, Bytes.versionText(1, 0), true);
    Due.is("the version has them", dropped.has(1, 8, 1) * 10 + dropped.has(1, 0, 1), 10);
  }

  @Says(at = "Terms", words = "of an ANSWER its number is as many as came,")
  static void rightAnswerNumber() {
    row("the first", front(), 4, 0, Bytes.answerText(0, 0, 3), true);
    row("the first has 1", front(), 4, 1, Bytes.answerText(0, 0, 3), false);
    Store one = front();
    one.answer(0, 0);
    row("one less", one, 4, 0, Bytes.answerText(0, 0, 3), false);
    Store two = front();
    two.answer(0, 0);
    row("as many as came", two, 4, 1, Bytes.answerText(0, 0, 3), true);
    row("of the lowest byte alone", front(), 4, 256, Bytes.answerText(0, 0, 3), false);
    Store last = front();
    last.answer(0, 0);
    lastRow("one more", last, 4, 1, Bytes.answerText(0, 0, 3), false);
  }

  @Says(at = "Terms", words = "below 100, its VERSION is there,")
  static void rightAnswersAreBelow100() {
    Store s = hundredAnswers(99);
    row("the hundredth", s, 4, 99, Bytes.answerText(0, 0, 3), true);
    row("one more", hundredAnswers(100), 4, 100, Bytes.answerText(0, 0, 3), false);
  }

  private static Store hundredAnswers(int count) {
    Store s = front();
    for (int i = 0; i < count; i++) {
      Due.is("answer " + i, s.answer(0, i % 64), i);
    }
    return s;
  }

  @Says(at = "Terms", words = "its VERSION is there, its NODE one;")
  static void rightAnswerVersionAndNode() {
    row("a version not yet made", front(), 4, 0, Bytes.answerText(1, 0, 3), false);
    row("version 255", front(), 4, 0, Bytes.answerText(255, 0, 3), false);
    Store dropped = front();
    dropped.version();
    dropped.drop(0);
    row("a version that is dropped", dropped, 4, 0, Bytes.answerText(0, 0, 3), false);
    Store other = front();
    other.version();
    other.drop(0);
    row("the other one", other, 4, 0, Bytes.answerText(1, 0, 3), true);
    row("the last node", front(), 4, 0, Bytes.answerText(0, 63, 3), true);
    int[] none = {64, 128, 255};
    for (int n : none) {
      row("node " + n, front(), 4, 0, Bytes.answerText(0, n, 3), false);
      Store last = front();
      last.answer(0, 0);
      lastRow("node " + n, last, 4, 0, Bytes.answerText(0, n, 3), false);
    }
  }

  @Says(at = "Terms", words = "of a DROP its VERSION is there.")
  static void rightDrop() {
    row("one that is there", front(), 5, 0, new byte[0], true);
    row("one not yet made", front(), 5, 1, new byte[0], false);
    row("of the lowest byte alone", front(), 5, 256, new byte[0], false);
    row("65535", front(), 5, 65535, new byte[0], false);
    row("none was made", Store.of(4), 5, 0, new byte[0], false);
    Store twice = front();
    twice.drop(0);
    row("twice", twice, 5, 0, new byte[0], false);
    Store last = front();
    last.version();
    last.drop(0);
    lastRow("another", last, 5, 1, new byte[0], true);
    Store wrong = front();
    wrong.drop(0);
    lastRow("none", wrong, 5, 1, new byte[0], false);
  }

  @Says(at = "Terms", words = "(As the ROWS before it tell.)")
  static void rightAsTheRowsBeforeTell() {
    Store s = new Store();
    s.turn(32, ZEROS, new Bytes().drop(0).chunk(0).version(0, 0).log());
    s.headOne(116);
    Due.is("a drop ahead of its version", s.open(), -2);
    Store chunk = new Store();
    chunk.turn(32, ZEROS, new Bytes().version(0, 0).chunk(0).log());
    chunk.headOne(104);
    Due.is("a version ahead of its chunk", chunk.open(), -2);
    Store first = Store.of(64, 1, 1, 2, 2, 3, 3);
    // the first change is made another, so that the third one's edge is there already
    first.turn(32, new Bytes().change(0, 1, 1, 1).log(), new Bytes().change(0, 3, 3, 1).log());
    Due.is("a right row makes a later one wrong", first.badAt(), 2);
    Due.is("what the store knows does not count", first.has(NONE, 1, 1), 1);
  }

  // heads

  @Says(at = "Terms", words = "A HEAD is RIGHT if its SUM is, and its LENGTH is 24000 or less.")
  static void rightHeads() {
    for (int i = 0; i < 16; i++) {
      Store s = Store.of(64, 1, 1);
      s.keep();
      s.poke(16 + i, 128 >> i % 8);
      Due.is("a bit of byte " + i, s.open(), 0);
      Due.is("the other head is taken, " + i, s.told(5) + s.told(3), 0);
    }
    Store full = new Store();
    full.fill(0, false);
    full.headOne(24000);
    Due.is("24000", full.open() > 0, true);
    Due.is("it is taken", full.told(3), 24000);
    long[] lengths = {24001, 24032, 65536, 0x7FFFFFFFL, 0x80000000L, 0xFFFFFFFFL};
    for (long length : lengths) {
      Store s = new Store();
      s.turn(16, ZEROS, Bytes.headBytes(1, length));
      Due.is("a length of " + length, s.open(), 0);
      Due.is("the other head is taken, " + length, s.told(5), 0);
      s.poke(0, 1);
      Due.is("there is no other, " + length, s.open(), NONE);
    }
    Store empty = new Store();
    empty.turn(16, ZEROS, Bytes.headBytes(1, 24000));
    Due.is("24000, but no row", empty.open(), -2);
  }

  @Says(at = "Terms", words = "open() takes the HEAD that is RIGHT")
  static void theHeadThatIsRight() {
    Store s = Store.of(64, 1, 1);
    s.keep();
    s.edge(2, 2, true);
    s.keep();
    s.poke(0, 1);
    s.open();
    Due.is("that at 16, as that at 0 is not right", s.told(5) * 100 + s.told(3), 115);
    s.poke(0, 1);
    s.poke(31, 1);
    s.open();
    Due.is("that at 0, as that at 16 is not right", s.told(5) * 100 + s.told(3), 230);
    s.poke(0, 1);
    Due.is("neither", s.open(), NONE);
  }

  @Says(at = "Terms", words = "(of two the one with the greater TURN; that at 0, if they are alike):")
  static void theHeadOfTwo() {
    headOfTwo(2, 1, 0);
    headOfTwo(2, 3, 16);
    headOfTwo(5, 5, 0);
    headOfTwo(0, 0, 0);
    headOfTwo(0xFFFFFFFFL, 0xFFFFFFFFL, 0);
    headOfTwo(0xFFFFFFFEL, 0xFFFFFFFFL, 16);
    headOfTwo(0, 0xFFFFFFFFL, 16);
    headOfTwo(0x80000000L, 0x7FFFFFFFL, 0);
    headOfTwo(0x7FFFFFFEL, 0x80000001L, 16);
    headOfTwo(256, 255, 0);
    // a turn's place is looked at when it is written alone
    headOfTwo(1, 2, 16);
    headOfTwo(3, 2, 0);
  }

  private static void headOfTwo(long atZero, long atSixteen, int due) {
    Store s = Store.of(64, 1, 1, 2, 2);
    s.turn(0, Bytes.headBytes(0, 0), Bytes.headBytes(atZero, 15));
    s.turn(16, ZEROS, Bytes.headBytes(atSixteen, 30));
    Due.is("of " + atZero + " and " + atSixteen, s.open(), 0);
    Due.is("of " + atZero + " and " + atSixteen + ", the length", s.told(3), due == 0 ? 15 : 30);
    Due.is("of " + atZero + " and " + atSixteen + ", the turn", s.told(5), (int) (due == 0 ? atZero : atSixteen));
  }

  @Says(at = "Terms", words = "its LENGTH is the LOG's, and the ROWS there, in order, tell NOW, CHUNKS, VERSIONS, ANSWERS.")
  static void theRowsTell() {
    Store s = Store.of(9, 0, 1, 1, 63);
    s.version();
    s.edge(0, 1, false);
    s.version();
    s.answer(0, 0);
    s.answer(1, 1);
    s.version();
    s.drop(1);
    s.keep();
    String told = s.toldAll();
    int written = s.told(9);
    Due.is("open", s.open(), 2);
    Due.is("all that is told, but what was written", s.toldAll(), told.substring(0, told.lastIndexOf(' ')) + " 0");
    Due.is("bytes were written", written > 0, true);
    Due.is("NOW", "" + s.has(NONE, 0, 1) + s.has(NONE, 1, 63), "01");
    Due.is("chunks", "" + s.chunk(0, 0) + s.chunk(0, 1) + s.chunk(2, 0) + s.chunk(2, 7), "0121");
    Due.is("named", "" + s.named(0) + s.named(1) + s.named(2) + s.named(3), "1210");
    Due.is("a version", "" + s.has(0, 0, 1) + s.has(0, 1, 63), "11");
    Due.outside("a version that is dropped", () -> s.has(1, 0, 0));
    Due.is("answers", s.mask(0) + " " + s.mask(1), (1L << 63 | 3L) + " " + (1L << 63 | 2L));
    Due.is("usable", "" + s.usable(0) + s.usable(1), "10");
    Due.outside("the room", () -> s.named(9));
  }

  @Says(at = "Terms", words = "What is behind them counts for nothing.")
  static void whatIsBehindCountsForNothing() {
    Store s = Store.of(64, 1, 1);
    s.keep();
    s.edge(2, 2, true);
    s.version();
    s.poke(24031, 255);
    Due.is("rows behind the log", s.open(), 0);
    Due.is("are not there", s.toldAll(), "0 0 0 15 1 1 1 0 1 0");
    Due.is("the log is right", s.badAt(), NONE);
    s.edge(3, 3, true);
    Due.is("it is right with old bytes behind", s.badAt(), NONE);
    s.keep();
    Due.is("it opens with old bytes behind", s.open(), 0);
    Due.is("one row more", s.told(8), 2);
  }

  // exceptions

  @Says(at = "Terms", words = "IndexOutOfBounds: there is no such node, version, answer, chunk, place.")
  static void whatIsNotThere() {
    Store s = Store.of(5, 0, 1);
    s.version();
    s.version();
    s.answer(0, 0);
    s.drop(1);
    int[] noVersions = {1, 2, 99, 100, -2, Integer.MAX_VALUE, Integer.MIN_VALUE};
    for (int v : noVersions) {
      Due.outside("answer, version " + v, () -> s.answer(v, 0));
      Due.outside("drop, version " + v, () -> s.drop(v));
      Due.outside("has, version " + v, () -> s.has(v, 0, 0));
      Due.outside("chunk, version " + v, () -> s.chunk(v, 0));
      Due.outside("differ, one " + v, () -> s.differ(v, NONE));
      Due.outside("differ, other " + v, () -> s.differ(NONE, v));
      Due.outside("far, version " + v, () -> s.far(v, 0, 0));
    }
    for (int n : NO_NODES) {
      Due.outside("answer, node " + n, () -> s.answer(0, n));
      Due.outside("has, node " + n, () -> s.has(0, n, n));
      Due.outside("far, node " + n, () -> s.far(0, n, n));
    }
    int[] noAnswers = {1, -1, 100, Integer.MAX_VALUE, Integer.MIN_VALUE};
    for (int n : noAnswers) {
      Due.outside("usable " + n, () -> s.usable(n));
      Due.outside("mask " + n, () -> s.mask(n));
    }
    int[] noChunks = {5, -1, Integer.MAX_VALUE, Integer.MIN_VALUE};
    for (int n : noChunks) {
      Due.outside("named " + n, () -> s.named(n));
    }
    int[] noPlaces = {-1, 24032, Integer.MAX_VALUE, Integer.MIN_VALUE};
    for (int n : noPlaces) {
      Due.outside("poke " + n, () -> s.poke(n, 1));
      Due.outside("byteAt " + n, () -> s.byteAt(n));
    }
    Due.outside("NOW has no numbers of chunks", () -> s.chunk(NONE, 0));
    Due.outside("NOW has no answers", () -> s.answer(NONE, 0));
    Due.outside("NOW stays", () -> s.drop(NONE));
  }

  @Says(at = "Terms", words = "IllegalState: the store is CLOSED (all but those that say that they do not care).")
  static void whoCares() {
    Store s = Store.of(64, 0, 1);
    s.version();
    s.answer(0, 0);
    s.keep();
    s.crash(0);
    Due.closed("edge", () -> s.edge(0, 1, true));
    Due.closed("version", s::version);
    Due.closed("answer", () -> s.answer(0, 0));
    Due.closed("drop", () -> s.drop(0));
    Due.closed("keep", s::keep);
    Due.closed("badAt", s::badAt);
    Due.closed("has", () -> s.has(0, 0, 0));
    Due.closed("chunk", () -> s.chunk(0, 0));
    Due.closed("named", () -> s.named(0));
    Due.closed("differ", () -> s.differ(0, 0));
    Due.closed("far", () -> s.far(0, 0, 0));
    Due.closed("usable", () -> s.usable(0));
    Due.closed("mask", () -> s.mask(0));
    Due.closed("told", () -> s.told(0));
    Due.is("crash", s.crash(1), 0);
    Due.is("poke", s.poke(24000, 1), 0);
    Due.is("byteAt", s.byteAt(24000), 1);
    Due.is("isOpen", s.isOpen(), 0);
    Due.is("open", s.open(), 1);
    s.crash(0);
    Due.is("begin", Due.outcome(() -> s.begin(3)), "0");
    Due.is("open again", s.isOpen(), 1);
  }

  @Says(at = "Terms", words = "Of several that a call names, in the order in which it names them; FULL behind them.")
  static void theOrderOfExceptions() {
    Store s = new Store();
    s.crash(0);
    Due.closed("edge", () -> s.edge(-1, 64, true));
    Due.closed("answer", () -> s.answer(-1, 64));
    Due.closed("drop", () -> s.drop(0));
    Due.closed("has", () -> s.has(0, -1, 64));
    Due.closed("chunk", () -> s.chunk(0, 8));
    Due.closed("named", () -> s.named(64));
    Due.closed("differ", () -> s.differ(0, 1));
    Due.closed("far", () -> s.far(0, -1, 64));
    Due.closed("usable", () -> s.usable(0));
    Due.closed("mask", () -> s.mask(0));
    Due.closed("told", () -> s.told(10));
    Due.outside("poke does not care", () -> s.poke(24032, 1));
    Due.outside("byteAt does not care", () -> s.byteAt(-1));
    Store full = new Store();
    full.fill(0, true);
    Due.outside("edge of a full log", () -> full.edge(64, 0, true));
    Due.outside("edge to none of a full log", () -> full.edge(0, 64, true));
    Due.outside("answer of a full log, no version", () -> full.answer(99, 0));
    Due.outside("answer of a full log, no node", () -> full.answer(0, 64));
    Due.outside("drop of a full log", () -> full.drop(99));
    full.crash(0);
    Due.closed("edge of a full log, closed", () -> full.edge(0, 1, true));
    Due.closed("version of a full log, closed", full::version);
    Due.closed("answer of a full log, closed", () -> full.answer(0, 1));
    Due.closed("drop of a full log, closed", () -> full.drop(0));
    Store hundred = hundredAnswers(100);
    Due.outside("100 answers, no node", () -> hundred.answer(0, 64));
    Due.outside("100 answers, no version", () -> hundred.answer(1, 0));
    hundred.crash(0);
    Due.closed("100 answers, closed", () -> hundred.answer(0, 0));
    Store versions = hundredVersions(100);
    versions.crash(0);
    Due.closed("100 versions, closed", versions::version);
  }

  @Says(at = "Terms", words = "What throws or answers FULL changes nothing.")
  static void whatIsRefusedChangesNothing() {
    Sight.Script used = s -> {
      s.begin(2);
      s.edges(0, 1, 1, 2);
      s.version();
      s.answer(0, 0);
      s.keep();
      s.edge(8, 9, true);
    };
    Sight.outside("edge", used, s -> s.edge(64, 0, true));
    Sight.outside("edge to none", used, s -> s.edge(0, 64, true));
    Sight.full("version without room", used, s -> s.version());
    Sight.outside("answer", used, s -> s.answer(1, 0));
    Sight.outside("answer of no node", used, s -> s.answer(0, 64));
    Sight.outside("drop", used, s -> s.drop(1));
    Sight.outside("poke", used, s -> s.poke(24032, 255));
    Sight.outside("byteAt", used, s -> s.byteAt(24032));
    Sight.outside("has", used, s -> s.has(1, 0, 0));
    Sight.outside("chunk", used, s -> s.chunk(0, 8));
    Sight.outside("named", used, s -> s.named(2));
    Sight.outside("differ", used, s -> s.differ(0, 1));
    Sight.outside("far", used, s -> s.far(0, 0, 64));
    Sight.outside("usable", used, s -> s.usable(1));
    Sight.outside("mask", used, s -> s.mask(1));
    Sight.outside("told", used, s -> s.told(10));
    Sight.refused("begin(-1)", used, s -> s.begin(-1), "throws.NegativeArraySizeException");
    Sight.refused("begin(0)", used, s -> s.begin(0), "throws.IllegalArgumentException");
  }
}
