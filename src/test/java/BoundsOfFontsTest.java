/** The bounds that promises 1 to 4 name, a sentence of the document for each test. */
public final class BoundsOfFontsTest {
  private static final long NONE = -1000000000000L;
  private static final int MIN = Integer.MIN_VALUE;
  private static final int MAX = Integer.MAX_VALUE;
  private static final Due DUE = new Due();
  private static final Twins TWINS = new Twins(DUE);

  public static void main(String[] args) {
    newObjectHasNoFonts();
    newObjectHasNoFile();
    newObjectHasMagnification1000();
    newObjectHasNothingToRead();
    numberOfAFont();
    fontWithThatNumber();
    fontWithThatCheck();
    checkIsAnyInt();
    fortyFonts();
    orderOfFontRefusals();
    widthOfNoFont();
    widthOfNoSign();
    widthItself();
    widthIsFirst0();
    widthOfTheLastFont();
    refusedWidthStays();
    magnificationItself();
    magnificationInAFile();
    DUE.end();
  }

  /** "No fonts" */
  private static void newObjectHasNoFonts() {
    for (int number : new int[] {MIN, -1, 0, 255, 256, MAX}) {
      TWINS.refused("use " + number, Made::nothing, x -> x.use(number), -1);
      TWINS.refused("width of " + number, Made::nothing, x -> x.width(number, 0, 0), -1);
    }
    DUE.is("fonts", new DviPages().count(0), 0);
  }

  /** "no file" */
  private static void newObjectHasNoFile() {
    TWINS.refused("finish", Made::nothing, DviPages::finish, -3);
    TWINS.refused("end", Made::nothing, DviPages::end, -3);
    TWINS.refused("push", Made::nothing, DviPages::push, -3);
    TWINS.refused("pop", Made::nothing, DviPages::pop, -3);
    TWINS.refused("move", Made::nothing, x -> x.move(true, 0), -3);
    TWINS.refused("rule", Made::nothing, x -> x.rule(0, 0, true), -3);
    TWINS.refused("special", Made::nothing, x -> x.special(0, 1), -3);
    TWINS.refused("set", Made::nothing, x -> x.set(0, true), -3);
    DviPages x = new DviPages();
    DUE.is("bytes", x.count(1), 0);
    DUE.is("pages", x.count(2), 0);
    DUE.is("pile", x.count(6), 0);
    DUE.is("check", x.check(), 1);
    DUE.is("first page", x.begin(0), 0);
  }

  private static int magnificationOf(DviPages x) {
    return x.octet(10) << 24 | x.octet(11) << 16 | x.octet(12) << 8 | x.octet(13);
  }

  /** "magnification 1000" */
  private static void newObjectHasMagnification1000() {
    DviPages x = new DviPages();
    x.begin(0);
    DUE.is("magnification", magnificationOf(x), 1000);
  }

  /** "nothing to be read" */
  private static void newObjectHasNothingToRead() {
    DviPages x = new DviPages();
    DUE.is("to be read", x.count(3), 0);
    DUE.is("loop", x.loop(), 0);
    DUE.is("drop", x.drop(), 0);
    DUE.is("fault before a read", x.fault(), 0);
    DUE.is("pages", x.count(4), 0);
    DUE.is("items", x.count(5), 0);
    DUE.is("item", x.item(0, 0), NONE);
    DUE.is("count", x.counted(0, 0), NONE);
    DUE.is("read", x.read(), -1);
    DUE.is("fault", x.fault(), 2);
  }

  /** "-2 number not 0 .. 255" */
  private static void numberOfAFont() {
    for (int number : new int[] {MIN, -256, -1, 256, 511, MAX}) {
      TWINS.refused("font " + number, Made::nothing, x -> x.font(number, 5), -2);
      TWINS.refused("font " + number + " on a page", Made::busyPage, x -> x.font(number, 5), -2);
    }
    TWINS.taken("font 0", Made::nothing, x -> x.font(0, 5), 1);
    TWINS.taken("font 255", Made::nothing, x -> x.font(255, 5), 1);
    DviPages x = new DviPages();
    DUE.is("font 0", x.font(0, 5), 1);
    DUE.is("font 255", x.font(255, 6), 2);
    x.begin(0);
    DUE.is("use 255", x.use(255), 1);
    DUE.is("use 0", x.use(0), 1);
    DUE.is("written", Bytes.hex(Bytes.written(x)), new Bytes().head(1000).page(0, -1)
        .define(255, 6).u1(235, 255).define(0, 5).u1(171).hex());
  }

  /** "-3 there is one with that number" */
  private static void fontWithThatNumber() {
    for (int number : new int[] {3, 0, 70, 255, 64}) {
      TWINS.refused("again " + number, Made::fonts, x -> x.font(number, 5), -3);
    }
    TWINS.refused("last of forty", Made::fortyFonts, x -> x.font(140, 5), -3);
    TWINS.taken("next number", Made::fonts, x -> x.font(4, 5), 7);
  }

  /** "or that CHECK" */
  private static void fontWithThatCheck() {
    for (int check : new int[] {77, -5, 81}) {
      TWINS.refused("again " + check, Made::fonts, x -> x.font(9, check), -3);
    }
    TWINS.refused("number and CHECK", Made::fonts, x -> x.font(3, 77), -3);
    TWINS.refused("one font's number, another's CHECK", Made::fonts, x -> x.font(3, -5), -3);
    TWINS.taken("next CHECK", Made::fonts, x -> x.font(9, 76), 7);
  }

  /** "a CHECK, any int" */
  private static void checkIsAnyInt() {
    int[] checks = {MIN, MIN + 1, -256, -1, 0, 1, 255, 256, MAX - 1, MAX};
    DviPages x = new DviPages();
    for (int i = 0; i < checks.length; i++) {
      DUE.is("CHECK " + checks[i], x.font(i, checks[i]), i + 1);
    }
    x.begin(0);
    Bytes want = new Bytes().head(1000).page(0, -1);
    for (int i = 0; i < checks.length; i++) {
      x.use(i);
      x.set(1, false);
      want.define(i, checks[i]).u1(171 + i, 1);
    }
    DUE.is("written", Bytes.hex(Bytes.written(x)), want.hex());
    x.end();
    x.finish();
    x.loop();
    DUE.is("read", x.read(), 1);
    DUE.is("items", x.count(5), checks.length);
  }

  /** "-4 there are 40" */
  private static void fortyFonts() {
    DviPages x = new DviPages();
    for (int i = 0; i < 40; i++) {
      DUE.is("font " + i, x.font(i, -i), i + 1);
    }
    DUE.is("fonts", x.count(0), 40);
    DUE.is("a 41st", x.font(40, -40), -4);
    DUE.is("fonts", x.count(0), 40);
    DUE.is("it is not there", x.width(40, 0, 0), -1);
    TWINS.refused("a 41st", Made::fortyFonts, y -> y.font(1, 1), -4);
    TWINS.refused("a 41st, number 255 is there", Made::fortyFonts, y -> y.font(254, MIN), -4);
  }

  /** The first that fits: -2, -3, -4. */
  private static void orderOfFontRefusals() {
    TWINS.refused("-2 before -3", Made::fonts, x -> x.font(256, 77), -2);
    TWINS.refused("-2 before -4", Made::fortyFonts, x -> x.font(-1, 1), -2);
    TWINS.refused("-3 before -4, number", Made::fortyFonts, x -> x.font(3, 1), -3);
    TWINS.refused("-3 before -4, CHECK", Made::fortyFonts, x -> x.font(1, 77), -3);
  }

  /** "-1 no such font" */
  private static void widthOfNoFont() {
    for (int number : new int[] {MIN, -1, 1, 4, 254, 256, 259, MAX}) {
      TWINS.refused("width of font " + number, Made::fonts, x -> x.width(number, 65, 1), -1);
      TWINS.refused("-1 before -2", Made::fonts, x -> x.width(number, 256, 1000001), -1);
    }
  }

  /** "-2 sign not 0 .. 255" */
  private static void widthOfNoSign() {
    for (int sign : new int[] {MIN, -1, 256, 321, MAX}) {
      TWINS.refused("width of sign " + sign, Made::fonts, x -> x.width(3, sign, 1), -2);
    }
    TWINS.taken("sign 0", Made::fonts, x -> x.width(3, 0, 1), 1);
    TWINS.taken("sign 255", Made::fonts, x -> x.width(3, 255, 1), 1);
  }

  /** "w not -1000000 .. 1000000" */
  private static void widthItself() {
    for (int w : new int[] {MIN, -1000001, 1000001, MAX}) {
      TWINS.refused("width " + w, Made::fonts, x -> x.width(3, 65, w), -2);
    }
    for (int w : new int[] {-1000000, -999999, -1, 0, 1, 999999, 1000000}) {
      DviPages x = TWINS.taken("width " + w, Made::fonts, y -> y.width(3, 65, w), 1);
      DUE.is("H behind a sign of width " + w, growth(x, 3, 65), w);
    }
  }

  /** How far a sign goes, as the next thing that stands tells. */
  private static long growth(DviPages x, int font, int sign) {
    x.begin(0);
    x.use(font);
    x.set(sign, false);
    x.special(0, 1);
    x.loop();
    x.read();
    long h = x.item(1, 2);
    x.end();
    x.finish();
    return h;
  }

  /** "a WIDTH for each sign 0 to 255, at first 0" */
  private static void widthIsFirst0() {
    DviPages x = new DviPages();
    x.font(9, 9);
    x.font(8, 8);
    x.width(9, 255, 11);
    x.begin(0);
    x.use(8);
    for (int sign = 0; sign < 256; sign++) {
      x.set(sign, false);
    }
    x.loop();
    x.read();
    DUE.is("signs", x.count(5), 256);
    for (int sign = 0; sign < 256; sign++) {
      DUE.is("H of sign " + sign, x.item(sign, 2), 0);
    }
  }

  /** The widths of one font are no other's: the last sign of one, the first of the next. */
  private static void widthOfTheLastFont() {
    DviPages x = new DviPages();
    Made.fortyFonts(x);
    x.width(140, 255, 17);
    x.width(139, 255, 18);
    x.width(140, 0, 19);
    x.width(3, 0, 20);
    DUE.is("last sign of the last font", growth(x, 140, 255), 17);
    DUE.is("last sign of the font before", growth(x, 139, 255), 18);
    DUE.is("first sign of the last font", growth(x, 140, 0), 19);
    DUE.is("first sign of the first font", growth(x, 3, 0), 20);
    DUE.is("first sign of the second font", growth(x, 0, 0), 0);
    DUE.is("first sign of the font before", growth(x, 139, 0), 0);
    DUE.is("last sign of the first font", growth(x, 3, 255), 0);
  }

  /** "REFUSALS change nothing": a width that was told stays. */
  private static void refusedWidthStays() {
    DviPages x = new DviPages();
    Made.fonts(x);
    x.width(70, 255, 12);
    DUE.is("too wide", x.width(70, 255, 1000001), -2);
    DUE.is("too narrow", x.width(70, 255, -1000001), -2);
    DUE.is("no sign", x.width(70, 511, 5), -2);
    DUE.is("no font", x.width(326, 255, 5), -1);
    DUE.is("width", growth(x, 70, 255), 12);
  }

  /** "-2 not 1 .. 32768" */
  private static void magnificationItself() {
    for (int m : new int[] {MIN, -1, 0, 32769, 65536 + 1000, MAX}) {
      TWINS.refused("magnify " + m, Made::fonts, x -> x.magnify(m), -2);
      TWINS.refused("magnify " + m + " behind a file", Made::finished, x -> x.magnify(m), -2);
    }
    for (int m : new int[] {1, 2, 999, 1001, 32767, 32768}) {
      DviPages x = TWINS.taken("magnify " + m, Made::nothing, y -> y.magnify(m), 1);
      DUE.is("not 0", x.magnify(0), -2);
      x.begin(0);
      DUE.is("in the head " + m, magnificationOf(x), m);
      x.end();
      x.finish();
      x.loop();
      DUE.is("read", x.read(), 1);
    }
  }

  /** "-3 a file is begun and not finished" */
  private static void magnificationInAFile() {
    TWINS.refused("on a page", Made::busyPage, x -> x.magnify(5), -3);
    TWINS.refused("between pages", Made::betweenPages, x -> x.magnify(5), -3);
    TWINS.refused("behind twenty pages", Made::twentyPages, x -> x.magnify(5), -3);
    TWINS.refused("-2 before -3", Made::betweenPages, x -> x.magnify(32769), -2);
    TWINS.refused("-2 before -3, on a page", Made::page, x -> x.magnify(0), -2);
    DviPages x = TWINS.taken("finished", Made::finished, y -> y.magnify(5), 1);
    DUE.is("the finished file has its own", magnificationOf(x), 1500);
    x.begin(0);
    DUE.is("the next file", magnificationOf(x), 5);
  }
}
