import java.io.ByteArrayOutputStream;

/** Builds files byte by byte, and hands them to an object. */
final class Bytes {
  static final int NUMERATOR = 25400000;
  static final int DENOMINATOR = 473628672;
  static final int SCALE = 655360;

  private final ByteArrayOutputStream row = new ByteArrayOutputStream();

  int size() {
    return row.size();
  }

  /** Single bytes. */
  Bytes u1(int... octets) {
    for (int octet : octets) {
      row.write(octet);
    }
    return this;
  }

  /** The lowest n bytes of each number. */
  Bytes un(int n, long... numbers) {
    for (long number : numbers) {
      for (int i = n - 1; i >= 0; i--) {
        row.write((int) (number >> (8 * i)));
      }
    }
    return this;
  }

  Bytes s4(long... numbers) {
    return un(4, numbers);
  }

  Bytes head(int magnification) {
    return u1(247, 2).s4(NUMERATOR, DENOMINATOR, magnification).u1(0);
  }

  Bytes page(int count, int before) {
    return u1(139).s4(count, 0, 0, 0, 0, 0, 0, 0, 0, 0, before);
  }

  Bytes define(int number, int check) {
    return u1(243, number).s4(check, SCALE, SCALE).u1(0, 0);
  }

  Bytes tail(int last, int magnification, int v, int h, int pile, int pages) {
    return u1(248).s4(last, NUMERATOR, DENOMINATOR, magnification, v, h).un(2, pile, pages);
  }

  Bytes last(int tail) {
    u1(249).s4(tail).u1(2, 223, 223, 223, 223);
    while (size() % 4 != 0) {
      u1(223);
    }
    return this;
  }

  byte[] toArray() {
    return row.toByteArray();
  }

  String hex() {
    return hex(toArray());
  }

  static String hex(byte[] bytes) {
    StringBuilder text = new StringBuilder();
    for (byte b : bytes) {
      text.append(Character.forDigit(b >> 4 & 15, 16)).append(Character.forDigit(b & 15, 16));
    }
    return text.toString();
  }

  /** The file that an object has written, as far as count(1) goes. */
  static byte[] written(DviPages x) {
    byte[] file = new byte[x.count(1)];
    for (int i = 0; i < file.length; i++) {
      file[i] = (byte) x.octet(i);
    }
    return file;
  }

  static int read(DviPages x, byte[] bytes) {
    x.drop();
    int at = 0;
    while (at < bytes.length) {
      int n = Math.min(8, bytes.length - at);
      long number = 0;
      for (int i = 0; i < n; i++) {
        number = number << 8 | bytes[at + i] & 255;
      }
      x.load(number, n);
      at += n;
    }
    return x.read();
  }

  int readBy(DviPages x) {
    return read(x, toArray());
  }
}
