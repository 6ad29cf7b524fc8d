import java.util.Arrays;

/** A GraphLog whose calls are counted, as the document promises nothing behind the 512th. */
final class Store {
  static final int MOST_CALLS = 512;

  /** A call whose answer is looked at. */
  interface Call {
    long of(Store s);
  }

  private final GraphLog log = new GraphLog();
  private int calls;

  private GraphLog counted() {
    calls++;
    if (calls > MOST_CALLS) {
      Due.is("calls of one object", calls, MOST_CALLS);
    }
    return log;
  }

  int calls() {
    return calls;
  }

  int begin(int chunks) {
    counted().begin(chunks);
    return 0;
  }

  int edge(int a, int b, boolean on) {
    return counted().edge(a, b, on);
  }

  int version() {
    return counted().version();
  }

  int answer(int version, int node) {
    return counted().answer(version, node);
  }

  int drop(int version) {
    return counted().drop(version);
  }

  int keep() {
    return counted().keep();
  }

  int crash(int n) {
    return counted().crash(n);
  }

  int open() {
    return counted().open();
  }

  int poke(int place, int mask) {
    return counted().poke(place, mask);
  }

  int byteAt(int place) {
    return counted().byteAt(place);
  }

  int badAt() {
    return counted().badAt();
  }

  int has(int version, int a, int b) {
    return counted().has(version, a, b) ? 1 : 0;
  }

  int chunk(int version, int g) {
    return counted().chunk(version, g);
  }

  int named(int chunk) {
    return counted().named(chunk);
  }

  int differ(int one, int other) {
    return counted().differ(one, other);
  }

  int far(int version, int a, int b) {
    return counted().far(version, a, b);
  }

  int usable(int answer) {
    return counted().usable(answer) ? 1 : 0;
  }

  long mask(int answer) {
    return counted().mask(answer);
  }

  int told(int what) {
    return counted().told(what);
  }

  int isOpen() {
    return counted().isOpen() ? 1 : 0;
  }

  /** A new store with a room, and an edge for each two nodes. */
  static Store of(int room, int... nodes) {
    Store s = new Store();
    s.begin(room);
    return s.edges(nodes);
  }

  Store edges(int... nodes) {
    for (int i = 0; i + 1 < nodes.length; i += 2) {
      edge(nodes[i], nodes[i + 1], true);
    }
    return this;
  }

  String toldAll() {
    StringBuilder text = new StringBuilder();
    for (int what = 0; what <= 9; what++) {
      text.append(what == 0 ? "" : " ").append(told(what));
    }
    return text.toString();
  }

  byte[] bytes(int place, int count) {
    byte[] bytes = new byte[count];
    for (int i = 0; i < count; i++) {
      bytes[i] = (byte) byteAt(place + i);
    }
    return bytes;
  }

  boolean stands(int place, byte[] due) {
    return Arrays.equals(bytes(place, due.length), due);
  }

  /** What stands at a place is known, so that a byte takes one call at most. */
  void turn(int place, byte[] from, byte[] to) {
    for (int i = 0; i < to.length; i++) {
      int was = i < from.length ? from[i] & 255 : 0;
      if (was != (to[i] & 255)) {
        Due.is("what stood at " + (place + i), poke(place + i, was ^ to[i]), was);
      }
    }
  }

  /** On a disk without heads but that of begin: a head with turn 1, at 16. */
  void headOne(int length) {
    turn(16, new byte[0], Bytes.headBytes(1, length));
  }

  /** Behind the log, on bytes that are 0, a row is put, and a head with turn 1 that keeps it. */
  void addRow(int kind, int number, int size, byte[] text) {
    int length = told(3);
    byte[] row = Bytes.rowBytes(32 + length, kind, number, size, text);
    turn(32 + length, new byte[0], row);
    headOne(length + row.length);
  }

  /**
   * A log of which so many bytes are free. NOW has one chunk that is new (changed), or none; versions 0
   * and the last are there. The chunks before the first one that is used have no edges but for the change.
   */
  void fill(int free, boolean changed, int first) {
    begin(65536);
    int round = (8 - first) * (15 + 76) + 28;
    int length = 0;
    int made = 0;
    while (length + round + 76 <= 23700) {
      for (int g = first; g < 8; g++) {
        edge(8 * g + made % 8, g + 8 * (made / 8), true);
      }
      version();
      length += round + (made == 0 && first > 0 ? 76 : 0);
      made++;
    }
    fillRest(24000 - free - length, changed, made - 1);
    Due.is("bytes that are free", 24000 - told(3), free);
  }

  void fill(int free, boolean changed) {
    fill(free, changed, 0);
  }

  private void fillRest(int bytes, boolean changed, int last) {
    int rest = bytes;
    int newest = last;
    // only changes have an odd number of bytes, so that one more of them is made part of a version
    if (!changed && rest % 2 == 1) {
      edge(2, 2, true);
      newest = version();
      rest -= 15 + 76 + 28;
    }
    for (int answers = Math.min(rest / 22, 90); answers >= 0; answers--) {
      for (int drops = 0; drops < last - 1 && 22 * answers + 12 * drops <= rest; drops++) {
        int left = rest - 22 * answers - 12 * drops;
        if (left % 15 == 0 && (changed ? left > 0 : left == 0)) {
          fillBy(answers, drops, left / 15, newest);
          return;
        }
      }
    }
    Due.is("a way to fill a log", bytes, 0);
  }

  private void fillBy(int answers, int drops, int changes, int newest) {
    for (int i = 0; i < answers; i++) {
      answer(newest, i % 64);
    }
    for (int i = 0; i < drops; i++) {
      drop(newest - 1 - i);
    }
    for (int i = 0; i < changes; i++) {
      edge(1, 1 + i, true);
    }
  }
}
