import java.io.ByteArrayOutputStream;
import java.math.BigInteger;

/** Heads and rows as the document writes them, worked out apart from the class, and put on a disk by poke. */
final class Bytes {
  private static final BigInteger FACTOR = new BigInteger("C2B2AE3D27D4EB4F", 16);
  private static final BigInteger ALL = BigInteger.ONE.shiftLeft(64).subtract(BigInteger.ONE);

  private final ByteArrayOutputStream log = new ByteArrayOutputStream();

  static long sum(byte[] bytes, long start) {
    BigInteger s = BigInteger.valueOf(start);
    for (byte b : bytes) {
      BigInteger x = s.xor(BigInteger.valueOf(b & 255));
      BigInteger turned = x.shiftLeft(29).or(x.shiftRight(35)).and(ALL);
      s = turned.multiply(FACTOR).and(ALL);
    }
    return s.longValue();
  }

  static void number(ByteArrayOutputStream to, long value, int bytes) {
    for (int i = bytes - 1; i >= 0; i--) {
      to.write((int) (value >>> (8 * i)) & 255);
    }
  }

  static byte[] headBytes(long turn, long length) {
    ByteArrayOutputStream head = new ByteArrayOutputStream();
    number(head, turn, 4);
    number(head, length, 4);
    number(head, sum(head.toByteArray(), 1), 8);
    return head.toByteArray();
  }

  static byte[] rowBytes(int place, int kind, int number, int size, byte[] text) {
    ByteArrayOutputStream row = new ByteArrayOutputStream();
    row.write(kind);
    number(row, number, 2);
    row.write(size);
    row.write(text, 0, text.length);
    number(row, sum(row.toByteArray(), place), 8);
    return row.toByteArray();
  }

  /** A row behind those that are here, of any kind and size. */
  Bytes row(int kind, int number, int size, byte[] text) {
    byte[] bytes = rowBytes(32 + log.size(), kind, number, size, text);
    log.write(bytes, 0, bytes.length);
    return this;
  }

  Bytes row(int kind, int number, byte[] text) {
    return row(kind, number, text.length, text);
  }

  static byte[] chunkText(long... edges) {
    ByteArrayOutputStream text = new ByteArrayOutputStream();
    for (int i = 0; i < 8; i++) {
      number(text, i < edges.length ? edges[i] : 0L, 8);
    }
    return text.toByteArray();
  }

  static byte[] changeText(int a, int b, int on) {
    return new byte[] {(byte) a, (byte) b, (byte) on};
  }

  /** The last of the numbers stands for those that are not told. */
  static byte[] versionText(int... chunks) {
    ByteArrayOutputStream text = new ByteArrayOutputStream();
    for (int i = 0; i < 8; i++) {
      number(text, chunks[Math.min(i, chunks.length - 1)], 2);
    }
    return text.toByteArray();
  }

  static byte[] answerText(int version, int node, long mask) {
    ByteArrayOutputStream text = new ByteArrayOutputStream();
    text.write(version);
    text.write(node);
    number(text, mask, 8);
    return text.toByteArray();
  }

  Bytes chunk(int number, long... edges) {
    return row(1, number, chunkText(edges));
  }

  Bytes change(int number, int a, int b, int on) {
    return row(2, number, changeText(a, b, on));
  }

  Bytes version(int number, int... chunks) {
    return row(3, number, versionText(chunks));
  }

  Bytes answer(int number, int version, int node, long mask) {
    return row(4, number, answerText(version, node, mask));
  }

  Bytes drop(int version) {
    return row(5, version, new byte[0]);
  }

  int length() {
    return log.size();
  }

  byte[] log() {
    return log.toByteArray();
  }

  /** A new store with a room, on whose disk there are these rows, and a head with turn 1 that keeps them. */
  Store onNew(int room) {
    Store s = Store.of(room);
    s.turn(32, new byte[0], log());
    s.headOne(length());
    return s;
  }
}
