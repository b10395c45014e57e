/** Brings new objects to the states that bounds are looked at in. */
final class Made {
  static final int FAR = 1 << 30;
  static final int ROOM = 6000;

  static void nothing(DviPages x) {
  }

  /** Sign 65 of font 3 is as wide as may be, 66 as narrow; all other widths of font 3 are 0. */
  static void fonts(DviPages x) {
    x.font(3, 77);
    x.font(0, -5);
    x.font(70, 78);
    x.font(255, 79);
    x.font(63, 80);
    x.font(64, 81);
    x.width(3, 65, 1000000);
    x.width(3, 66, -1000000);
    x.width(70, 65, -40);
  }

  static void fortyFonts(DviPages x) {
    fonts(x);
    for (int i = 7; i <= 40; i++) {
      x.font(100 + i, 1000 + i);
    }
  }

  static void page(DviPages x) {
    fonts(x);
    x.begin(4);
  }

  /** A page with all that a page can hold, and one on the pile; something was read, with a fault. */
  static void busyPage(DviPages x) {
    page(x);
    work(x);
    x.push();
    x.move(false, 8);
    x.move(true, -8);
    x.loop();
    x.read();
  }

  private static void work(DviPages x) {
    x.use(3);
    x.set(65, false);
    x.rule(2, 3, false);
    for (int by : new int[] {5, 6, 7}) {
      x.move(false, by);
      x.move(true, -by);
    }
    x.special(-2, 3);
  }

  static void betweenPages(DviPages x) {
    page(x);
    work(x);
    x.end();
  }

  static void finished(DviPages x) {
    x.magnify(1500);
    betweenPages(x);
    x.finish();
    x.loop();
    x.read();
  }

  /** Twenty pages, the last one still begun. */
  static void twentiethPage(DviPages x) {
    fonts(x);
    for (int i = 0; i < 19; i++) {
      x.begin(i);
      x.end();
    }
    x.begin(19);
  }

  static void twentyPages(DviPages x) {
    twentiethPage(x);
    x.end();
  }

  static void pile(DviPages x, int n) {
    page(x);
    x.use(3);
    for (int i = 0; i < n; i++) {
      x.push();
      x.move(false, i % 3 + 5);
    }
  }

  /**
   * A page in a file with just so many bytes left; fonts 3, 64 and 70 are told, 3 is at hand, and W
   * is 5. 512 calls are too few for this; but a bound of the document holds however it is come to.
   */
  static void filled(DviPages x, int left) {
    page(x);
    x.use(64);
    x.use(70);
    x.use(3);
    x.move(false, 5);
    fill(x, left);
  }

  static void filledWithPile(DviPages x, int left) {
    page(x);
    x.use(3);
    x.push();
    fill(x, left);
  }

  /** No page is begun, and just so many bytes are left. */
  static void filledBetweenPages(DviPages x, int left) {
    filled(x, left + 1);
    x.end();
  }

  static void fill(DviPages x, int left) {
    while (x.count(1) + 20 <= ROOM - left) {
      x.special(-1, 8);
    }
    while (x.count(1) < ROOM - left) {
      x.set(1, false);
    }
  }

  /** Font 3 is at hand, and H and V are as told. */
  static void at(DviPages x, int h, int v) {
    page(x);
    x.use(3);
    go(x, false, h);
    go(x, true, v);
  }

  /** By steps of a million, for most of them are of one byte. */
  private static void go(DviPages x, boolean upright, int to) {
    int step = to < 0 ? -1000000 : 1000000;
    for (int i = 0; i < to / step; i++) {
      x.move(upright, step);
    }
    x.move(upright, to % step);
  }

  /** As wide as may be, with no byte left. */
  static void farAndFull(DviPages x) {
    at(x, FAR, -FAR);
    fill(x, 0);
  }

  /** So many bytes to be read: a head with much behind it, then whatever. */
  static void loaded(DviPages x, int bytes) {
    fonts(x);
    for (int left = bytes; left > 0; left -= 8) {
      x.load(0x8a8a8a8a8a8a8a8aL, Math.min(8, left));
    }
  }
}
