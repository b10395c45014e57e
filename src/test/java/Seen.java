/** All that can be asked of an object, and what a run of later calls shows of it. */
final class Seen {
  private static final int[] STEPS = {5, 6, 7, 5};

  /** Asks, and changes nothing. */
  static String now(DviPages x) {
    StringBuilder text = new StringBuilder("counts");
    for (int what = 0; what <= 6; what++) {
      text.append(' ').append(x.count(what));
    }
    text.append(", fault ").append(x.fault()).append(", check ").append(x.check());
    text.append(", file ").append(Bytes.hex(Bytes.written(x)));
    return text.append(read(x)).toString();
  }

  private static String read(DviPages x) {
    StringBuilder text = new StringBuilder(", items");
    for (int i = -1; i <= x.count(5); i++) {
      for (int what = -1; what <= 8; what++) {
        text.append(' ').append(x.item(i, what));
      }
    }
    text.append(", pages");
    for (int page = -1; page <= x.count(4); page++) {
      for (int k = -1; k <= 10; k++) {
        text.append(' ').append(x.counted(page, k));
      }
    }
    return text.toString();
  }

  /**
   * Goes on with the object, so that all that it holds comes to light in answers and bytes. Where
   * little room is left not all can be shown: the other way starts with fonts and turns.
   */
  static String later(DviPages x, boolean otherWay) {
    StringBuilder text = new StringBuilder();
    said(text, "read", x.read());
    text.append(now(x));
    said(text, "load", x.load(138, 1));
    said(text, "drop", x.drop());
    if (otherWay) {
      turns(x, text);
    }
    places(x, text);
    signs(x, text);
    said(text, "end", x.end());
    said(text, "begin", x.begin(9));
    signs(x, text);
    said(text, "end", x.end());
    wholeFile(x, text);
    said(text, "begin", x.begin(1));
    said(text, "end", x.end());
    wholeFile(x, text);
    said(text, "font", x.font(201, 123456));
    said(text, "magnify", x.magnify(77));
    return text.append(now(x)).toString();
  }

  private static void said(StringBuilder text, String call, long answer) {
    text.append(", ").append(call).append(' ').append(answer);
  }

  /** No state has a move of 9, so that its bytes tell whose turn it is. */
  private static void turns(DviPages x, StringBuilder text) {
    said(text, "use", x.use(0));
    said(text, "use", x.use(255));
    said(text, "push", x.push());
    said(text, "along", x.move(false, 9));
    said(text, "upright", x.move(true, 9));
    said(text, "pop", x.pop());
  }

  /** The bytes of the moves tell W, X, Y, Z and whose turn it is, here and on the pile. */
  private static void places(DviPages x, StringBuilder text) {
    for (int round = 0; round < 3; round++) {
      for (int step : STEPS) {
        said(text, "along", x.move(false, step));
        said(text, "upright", x.move(true, -step));
      }
      said(text, "set", x.set(65, false));
      said(text, "pop", x.pop());
    }
    for (int i = 0; i < 100 && x.count(6) > 0; i++) {
      said(text, "pop", x.pop());
    }
    said(text, "special", x.special(1, 1));
  }

  private static void signs(DviPages x, StringBuilder text) {
    for (int number : new int[] {3, 0, 70, 255, 201}) {
      said(text, "use", x.use(number));
      said(text, "set 65", x.set(65, false));
      said(text, "set 0", x.set(0, false));
      said(text, "set 255", x.set(255, false));
    }
    said(text, "special", x.special(-1, 8));
  }

  private static void wholeFile(DviPages x, StringBuilder text) {
    said(text, "finish", x.finish());
    said(text, "loop", x.loop());
    said(text, "read", x.read());
    text.append(now(x));
  }
}
