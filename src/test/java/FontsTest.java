/** Promises 1 to 4: a new object, font, width, magnify. */
public final class FontsTest {
  private static final long NONE = -1000000000000L;
  private static final Due DUE = new Due();

  public static void main(String[] args) {
    newObject();
    fonts();
    widths();
    magnification();
    DUE.end();
  }

  private static void newObject() {
    DviPages x = new DviPages();
    for (int what = 0; what <= 6; what++) {
      DUE.is("new count(" + what + ")", x.count(what), 0);
    }
    DUE.is("new fault()", x.fault(), 0);
    DUE.is("new check()", x.check(), 1);
    DUE.is("new item", x.item(0, 0), NONE);
    DUE.is("new counted", x.counted(0, 0), NONE);
    DUE.is("new loop()", x.loop(), 0);
    DUE.is("new drop()", x.drop(), 0);
    x.begin(0);
    x.end();
    x.finish();
    String file = Bytes.hex(Bytes.written(x));
    DUE.is("new magnification", file.substring(20, 28), "000003e8");
  }

  private static void fonts() {
    DviPages x = new DviPages();
    DUE.is("number -1", x.font(-1, 5), -2);
    DUE.is("number 256", x.font(256, 5), -2);
    DUE.is("number 0", x.font(0, Integer.MIN_VALUE), 1);
    DUE.is("number 255", x.font(255, Integer.MAX_VALUE), 2);
    DUE.is("same number", x.font(0, 5), -3);
    DUE.is("same CHECK", x.font(1, Integer.MIN_VALUE), -3);
    DUE.is("-2 before -3", x.font(256, Integer.MIN_VALUE), -2);
    for (int i = 1; i <= 38; i++) {
      DUE.is("font " + i, x.font(i, i), i + 2);
    }
    DUE.is("41st font", x.font(100, 100), -4);
    DUE.is("-3 before -4", x.font(100, 1), -3);
    DUE.is("fonts", x.count(0), 40);
  }

  private static void widths() {
    DviPages x = new DviPages();
    DUE.is("no font", x.width(7, 0, 0), -1);
    x.font(7, 1);
    x.font(8, 2);
    DUE.is("-1 before -2", x.width(9, 256, 0), -1);
    DUE.is("number 263", x.width(263, 0, 0), -1);
    DUE.is("sign -1", x.width(7, -1, 0), -2);
    DUE.is("sign 256", x.width(7, 256, 0), -2);
    DUE.is("too wide", x.width(7, 0, 1000001), -2);
    DUE.is("too narrow", x.width(7, 0, -1000001), -2);
    DUE.is("least int", x.width(7, 0, Integer.MIN_VALUE), -2);
    DUE.is("widest", x.width(7, 0, 1000000), 1);
    DUE.is("narrowest", x.width(7, 255, -1000000), 1);
    DUE.is("again", x.width(7, 255, -999999), 1);
    DUE.is("refused", x.width(7, 255, 1000001), -2);
    x.begin(0);
    x.use(8);
    x.set(0, false);
    x.use(7);
    x.set(0, false);
    x.set(1, false);
    x.set(255, false);
    x.set(255, false);
    x.loop();
    x.read();
    long[] at = {0, 0, 1000000, 1000000, 1};
    for (int i = 0; i < at.length; i++) {
      DUE.is("H of item " + i, x.item(i, 2), at[i]);
    }
  }

  private static void magnification() {
    DviPages x = new DviPages();
    DUE.is("0", x.magnify(0), -2);
    DUE.is("32769", x.magnify(32769), -2);
    DUE.is("-1", x.magnify(-1), -2);
    DUE.is("1", x.magnify(1), 1);
    DUE.is("32768", x.magnify(32768), 1);
    x.begin(0);
    DUE.is("on a page", x.magnify(5), -3);
    DUE.is("-2 before -3", x.magnify(0), -2);
    x.end();
    DUE.is("in a file", x.magnify(5), -3);
    x.finish();
    expectMagnification(x, 32768);
    DUE.is("behind a file", x.magnify(7), 1);
    expectMagnification(x, 32768);
    x.begin(0);
    x.end();
    x.finish();
    expectMagnification(x, 7);
    x.begin(0);
    x.end();
    x.finish();
    expectMagnification(x, 7);
  }

  /** The finished file without items has its tail at byte 61. */
  private static void expectMagnification(DviPages x, int m) {
    String want = new Bytes().s4(m).hex();
    String file = Bytes.hex(Bytes.written(x));
    DUE.is("in the head", file.substring(20, 28), want);
    DUE.is("in the tail", file.substring(2 * (61 + 13), 2 * (61 + 17)), want);
  }
}
