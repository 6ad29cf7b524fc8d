import java.util.ArrayDeque;
import java.util.ArrayList;
import java.util.Arrays;
import java.util.HashSet;
import java.util.List;
import java.util.Set;
import java.util.TreeMap;
import java.util.TreeSet;

/**
 * A second reading of the document, slow and plain: nothing is known but the rows, and each question is
 * answered by going through all of them again.
 */
final class PlainStore {
  static final int NONE = -1, FULL = -3;

  /** What rows tell: made anew from the first row on, whenever something is asked. */
  private static final class Tale {
    final Set<List<Integer>> now = new HashSet<>();
    final TreeMap<Integer, List<Integer>> chunks = new TreeMap<>();
    final List<int[]> versions = new ArrayList<>();
    final TreeSet<Integer> there = new TreeSet<>();
    final List<int[]> answers = new ArrayList<>();
    int changes = 0;

    Set<Integer> namedChunks() {
      Set<Integer> names = new TreeSet<>();
      for (int v : there) {
        for (int n : versions.get(v)) {
          names.add(n);
        }
      }
      return names;
    }

    /** Whether the row (its bytes without the sum) is right; if so it is told. */
    boolean tell(List<Integer> row, int room) {
      int number = row.get(1) * 256 + row.get(2);
      List<Integer> text = row.subList(4, row.size());
      switch (row.get(0)) {
        case 1:
          if (number >= room || namedChunks().contains(number)) {
            return false;
          }
          chunks.put(number, text);
          return true;
        case 2:
          return tellChange(number, text);
        case 3:
          int[] numbers = new int[8];
          for (int g = 0; g < 8; g++) {
            numbers[g] = text.get(2 * g) * 256 + text.get(2 * g + 1);
            if (!chunks.containsKey(numbers[g])) {
              return false;
            }
          }
          if (number != versions.size() || number >= 100) {
            return false;
          }
          there.add(number);
          return versions.add(numbers);
        case 4:
          if (number != answers.size() || number >= 100 || !there.contains(text.get(0)) || text.get(1) > 63) {
            return false;
          }
          return answers.add(text.stream().mapToInt(i -> i).toArray());
        default:
          return there.remove(number);
      }
    }

    private boolean tellChange(int number, List<Integer> text) {
      List<Integer> edge = text.subList(0, 2);
      if (number != changes || edge.get(0) > 63 || edge.get(1) > 63) {
        return false;
      }
      boolean done = text.get(2) == 1 ? now.add(edge) : text.get(2) == 0 && now.remove(edge);
      changes += done ? 1 : 0;
      return done;
    }

    Set<List<Integer>> graph(int version) {
      if (version == NONE) {
        return now;
      }
      Set<List<Integer>> edges = new HashSet<>();
      for (int a = 0; a < 64; a++) {
        List<Integer> bytes = chunks.get(versions.get(version)[a / 8]);
        for (int b = 0; b < 64; b++) {
          if ((bytes.get(a % 8 * 8 + 7 - b / 8) >> (b % 8) & 1) == 1) {
            edges.add(List.of(a, b));
          }
        }
      }
      return edges;
    }

    List<Integer> bytesOfNow(int g) {
      Integer[] bytes = new Integer[64];
      Arrays.fill(bytes, 0);
      for (List<Integer> edge : now) {
        if (edge.get(0) / 8 == g) {
          bytes[edge.get(0) % 8 * 8 + 7 - edge.get(1) / 8] |= 1 << (edge.get(1) % 8);
        }
      }
      return List.of(bytes);
    }
  }

  private static final int[] SIZES = {64, 3, 16, 10, 0};

  private final int[] disk = new int[24032];
  private final ArrayDeque<int[]> undo = new ArrayDeque<>();
  private List<List<Integer>> rows = new ArrayList<>();
  private int room;
  private long turn;
  private boolean open;

  PlainStore() {
    begin(64);
  }

  int begin(int chunks) {
    if (chunks < 0) {
      throw new NegativeArraySizeException();
    }
    if (chunks == 0 || chunks > 65536) {
      throw new IllegalArgumentException();
    }
    Arrays.fill(disk, 0);
    byte[] head = Bytes.headBytes(0, 0);
    for (int i = 0; i < 16; i++) {
      disk[i] = head[i] & 255;
    }
    undo.clear();
    rows = new ArrayList<>();
    room = chunks;
    turn = 0;
    open = true;
    return 0;
  }

  private Tale tale() {
    Tale tale = new Tale();
    for (List<Integer> row : rows) {
      if (!tale.tell(row, room)) {
        throw new AssertionError("a row of the plain store is not right");
      }
    }
    return tale;
  }

  private Tale openTale() {
    if (!open) {
      throw new IllegalStateException();
    }
    return tale();
  }

  private static void check(boolean right) {
    if (!right) {
      throw new IndexOutOfBoundsException();
    }
  }

  private static void nodes(int... nodes) {
    for (int node : nodes) {
      check(node >= 0 && node < 64);
    }
  }

  private int length() {
    return rows.stream().mapToInt(row -> row.size() + 8).sum();
  }

  private boolean write(int place, int value) {
    undo.push(new int[] {place, disk[place]});
    disk[place] = value;
    return true;
  }

  private static List<Integer> row(int kind, int number, int... text) {
    List<Integer> row = new ArrayList<>(List.of(kind, number / 256, number % 256, text.length));
    for (int b : text) {
      row.add(b);
    }
    return row;
  }

  private static byte[] bytes(List<Integer> list) {
    byte[] bytes = new byte[list.size()];
    for (int i = 0; i < bytes.length; i++) {
      bytes[i] = (byte) (int) list.get(i);
    }
    return bytes;
  }

  /** All rows, or none of them. */
  private boolean append(List<List<Integer>> more) {
    int bytes = more.stream().mapToInt(row -> row.size() + 8).sum();
    if (length() + bytes > 24000) {
      return false;
    }
    for (List<Integer> row : more) {
      int place = 32 + length();
      long sum = Bytes.sum(bytes(row), place);
      for (int i = 0; i < row.size(); i++) {
        write(place + i, row.get(i));
      }
      for (int i = 0; i < 8; i++) {
        write(place + row.size() + i, (int) (sum >>> (56 - 8 * i)) & 255);
      }
      rows.add(row);
    }
    return true;
  }

  int edge(int a, int b, boolean on) {
    Tale tale = openTale();
    nodes(a, b);
    if (tale.now.contains(List.of(a, b)) == on) {
      return 0;
    }
    return append(List.of(row(2, tale.changes, a, b, on ? 1 : 0))) ? 1 : FULL;
  }

  int version() {
    Tale tale = openTale();
    int number = tale.versions.size();
    if (number >= 100) {
      return FULL;
    }
    TreeMap<Integer, List<Integer>> named = new TreeMap<>();
    for (int n : tale.namedChunks()) {
      named.put(n, tale.chunks.get(n));
    }
    List<List<Integer>> more = new ArrayList<>();
    int[] text = new int[16];
    for (int g = 0; g < 8; g++) {
      List<Integer> bytes = tale.bytesOfNow(g);
      int n = named.keySet().stream().filter(k -> named.get(k).equals(bytes)).findFirst().orElse(NONE);
      if (n == NONE) {
        n = 0;
        while (named.containsKey(n)) {
          n++;
        }
        if (n >= room) {
          return FULL;
        }
        named.put(n, bytes);
        more.add(row(1, n, bytes.stream().mapToInt(i -> i).toArray()));
      }
      text[2 * g] = n / 256;
      text[2 * g + 1] = n % 256;
    }
    more.add(row(3, number, text));
    return append(more) ? number : FULL;
  }

  int answer(int version, int node) {
    Tale tale = openTale();
    check(tale.there.contains(version));
    nodes(node);
    int number = tale.answers.size();
    if (number >= 100) {
      return FULL;
    }
    int[] text = new int[10];
    text[0] = version;
    text[1] = node;
    for (int b = 0; b < 64; b++) {
      if (far(version, node, b) != NONE) {
        text[9 - b / 8] |= 1 << (b % 8);
      }
    }
    return append(List.of(row(4, number, text))) ? number : FULL;
  }

  int drop(int version) {
    Tale tale = openTale();
    check(tale.there.contains(version));
    int before = tale.namedChunks().size();
    return append(List.of(row(5, version))) ? before - tale().namedChunks().size() : FULL;
  }

  int keep() {
    openTale();
    turn = (turn + 1) % (1L << 32);
    byte[] head = Bytes.headBytes(turn, length());
    for (int i = 0; i < 16; i++) {
      write((turn % 2 == 0 ? 0 : 16) + i, head[i] & 255);
    }
    return (int) turn;
  }

  int crash(int n) {
    if (!open) {
      return 0;
    }
    int count = 0;
    while (count < n && !undo.isEmpty()) {
      int[] was = undo.pop();
      disk[was[0]] = was[1];
      count++;
    }
    open = false;
    return count;
  }

  private long number(int place, int count) {
    long value = 0;
    for (int i = 0; i < count; i++) {
      value = value * 256 + disk[place + i];
    }
    return value;
  }

  private List<Integer> diskBytes(int place, int count) {
    List<Integer> bytes = new ArrayList<>();
    for (int i = 0; i < count; i++) {
      bytes.add(disk[place + i]);
    }
    return bytes;
  }

  private boolean isHead(int place) {
    return Bytes.sum(bytes(diskBytes(place, 8)), 1) == number(place + 8, 8) && number(place + 4, 4) <= 24000;
  }

  /** The rows of so many bytes of the disk; behind them null, if one is not right. */
  private List<List<Integer>> read(int length) {
    List<List<Integer>> read = new ArrayList<>();
    Tale tale = new Tale();
    int place = 32;
    while (place < 32 + length) {
      int kind = disk[place];
      int size = kind >= 1 && kind <= 5 ? SIZES[kind - 1] : NONE;
      boolean right = size != NONE && place + 12 + size <= 32 + length && disk[place + 3] == size;
      List<Integer> row = right ? diskBytes(place, 4 + size) : null;
      right = right && Bytes.sum(bytes(row), place) == number(place + 4 + size, 8) && tale.tell(row, room);
      if (!right) {
        read.add(null);
        return read;
      }
      read.add(row);
      place += 12 + size;
    }
    return read;
  }

  int open() {
    open = false;
    boolean first = isHead(0), second = isHead(16);
    if (!first && !second) {
      return NONE;
    }
    int head = first && (!second || number(0, 4) >= number(16, 4)) ? 0 : 16;
    List<List<Integer>> read = read((int) number(head + 4, 4));
    if (read.contains(null)) {
      return -2 - (read.size() - 1);
    }
    rows = read;
    turn = number(head, 4);
    undo.clear();
    open = true;
    return tale().there.size();
  }

  int poke(int place, int mask) {
    check(place >= 0 && place < 24032);
    int was = disk[place];
    disk[place] = was ^ (mask & 255);
    return was;
  }

  int byteAt(int place) {
    check(place >= 0 && place < 24032);
    return disk[place];
  }

  int badAt() {
    openTale();
    List<List<Integer>> read = read(length());
    return read.contains(null) ? read.size() - 1 : NONE;
  }

  int has(int version, int a, int b) {
    Tale tale = openTale();
    check(version == NONE || tale.there.contains(version));
    nodes(a, b);
    return tale.graph(version).contains(List.of(a, b)) ? 1 : 0;
  }

  int chunk(int version, int g) {
    Tale tale = openTale();
    check(tale.there.contains(version) && g >= 0 && g < 8);
    return tale.versions.get(version)[g];
  }

  int named(int chunk) {
    Tale tale = openTale();
    check(chunk >= 0 && chunk < room);
    return (int) tale.there.stream().filter(v -> Arrays.stream(tale.versions.get(v)).anyMatch(n -> n == chunk)).count();
  }

  int differ(int one, int other) {
    Tale tale = openTale();
    check(one == NONE || tale.there.contains(one));
    check(other == NONE || tale.there.contains(other));
    Set<List<Integer>> first = tale.graph(one), second = tale.graph(other);
    return (int) (first.stream().filter(e -> !second.contains(e)).count()
        + second.stream().filter(e -> !first.contains(e)).count());
  }

  int far(int version, int a, int b) {
    Tale tale = openTale();
    check(version == NONE || tale.there.contains(version));
    nodes(a, b);
    int[] far = new int[64];
    Arrays.fill(far, 1000);
    far[a] = 0;
    Set<List<Integer>> graph = tale.graph(version);
    boolean nearer = true;
    while (nearer) {
      nearer = false;
      for (List<Integer> edge : graph) {
        if (far[edge.get(0)] + 1 < far[edge.get(1)]) {
          far[edge.get(1)] = far[edge.get(0)] + 1;
          nearer = true;
        }
      }
    }
    return far[b] >= 1000 ? NONE : far[b];
  }

  int usable(int answer) {
    Tale tale = openTale();
    check(answer >= 0 && answer < tale.answers.size());
    return tale.there.contains(tale.answers.get(answer)[0]) ? 1 : 0;
  }

  long mask(int answer) {
    Tale tale = openTale();
    check(answer >= 0 && answer < tale.answers.size());
    long mask = 0;
    for (int i = 2; i < 10; i++) {
      mask = mask * 256 + tale.answers.get(answer)[i];
    }
    return mask;
  }

  int told(int what) {
    Tale tale = openTale();
    check(what >= 0 && what < 10);
    int[] all = {tale.there.size(), tale.versions.size(), tale.answers.size(), length(), tale.changes, (int) turn,
      tale.now.size(), tale.namedChunks().size(), rows.size(), undo.size()};
    return all[what];
  }

  int isOpen() {
    return open ? 1 : 0;
  }
}
