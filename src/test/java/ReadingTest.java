import java.util.ArrayList;
import java.util.Arrays;
import java.util.List;

/** Promises 16 to 23: what is read, where reading stops, and by which fault. */
public final class ReadingTest {
  private static final long NONE = -1000000000000L;
  private static final int FAR = 1 << 30;
  private static final Due DUE = new Due();
  private static final Reader READER = new Reader(DUE);

  public static void main(String[] args) {
    loading();
    counts();
    emptyFiles();
    order();
    missingBytes();
    heads();
    fontsAndSigns();
    definitions();
    piles();
    pointers();
    tails();
    limits();
    endings();
    items();
    rules();
    moves();
    places();
    magnified();
    readTwice();
    DUE.end();
  }

  private static DviPages reader() {
    return Reader.made();
  }

  private static Bytes onPage() {
    return Reader.onPage();
  }

  private static Bytes withFont() {
    return Reader.withFont();
  }

  private static Bytes tailed() {
    return Reader.tailed();
  }

  private static DviPages expect(String what, Bytes bytes, int at, int fault) {
    return READER.stops(what, bytes, at, fault);
  }

  private static DviPages expectWhole(String what, Bytes bytes, int pages) {
    return READER.whole(what, bytes, pages);
  }

  private static DviPages expectOpen(String what, Bytes bytes) {
    return READER.open(what, bytes);
  }

  private static void loading() {
    DviPages x = new DviPages();
    DUE.is("0 bytes", x.load(1, 0), -2);
    DUE.is("9 bytes", x.load(1, 9), -2);
    DUE.is("-1 bytes", x.load(1, -1), -2);
    DUE.is("1 byte", x.load(1, 1), 1);
    DUE.is("8 bytes", x.load(1, 8), 9);
    DUE.is("bytes to be read", x.count(3), 9);
    DUE.is("drop", x.drop(), 9);
    DUE.is("drop again", x.drop(), 0);
    for (int i = 1; i <= 1000; i++) {
      DUE.is("load", x.load(-1, 8), 8 * i);
    }
    DUE.is("more than 8000", x.load(1, 1), -4);
    DUE.is("-2 before -4", x.load(1, 9), -2);
    DUE.is("8000", x.count(3), 8000);
    DUE.is("loop of nothing", x.loop(), 0);
    DUE.is("nothing to be read", x.count(3), 0);
    x.begin(1);
    DUE.is("loop of an open file", x.loop(), 60);
    DUE.is("not finished", x.read(), -61);
    DUE.is("load behind it", x.load(138, 1), 61);
    DUE.is("read", x.read(), -62);
    DUE.is("the file stays", x.count(1), 60);
    DUE.is("loop again", x.loop(), 60);
    x.end();
    DUE.is("what is to be read stays", x.count(3), 60);
    int size = x.finish();
    DUE.is("loop of a finished file", x.loop(), size);
    DUE.is("read", x.read(), 1);
  }

  private static void counts() {
    DviPages x = reader();
    DUE.is("count(-1)", x.count(-1), -2);
    DUE.is("count(7)", x.count(7), -2);
    DUE.is("count of the greatest", x.count(Integer.MAX_VALUE), -2);
    new Bytes().head(1000).u1(139).s4(1, -2, 3, 4, 5, 6, 7, 8, 9, Integer.MIN_VALUE, -1)
        .u1(140).page(77, 15).readBy(x);
    DUE.is("pages that were begun", x.count(4), 2);
    DUE.is("items", x.count(5), 0);
    long[] want = {1, -2, 3, 4, 5, 6, 7, 8, 9, Integer.MIN_VALUE};
    for (int k = 0; k < 10; k++) {
      DUE.is("count " + k, x.counted(0, k), want[k]);
    }
    DUE.is("of the second page", x.counted(1, 0), 77);
    DUE.is("count -1", x.counted(0, -1), NONE);
    DUE.is("count 10", x.counted(0, 10), NONE);
    DUE.is("page -1", x.counted(-1, 0), NONE);
    DUE.is("page 2", x.counted(2, 0), NONE);
    DUE.is("greatest page", x.counted(Integer.MAX_VALUE, 9), NONE);
    DUE.is("least page", x.counted(Integer.MIN_VALUE, 9), NONE);
    DUE.is("bytes of the file", x.count(1), 0);
  }

  private static void emptyFiles() {
    expect("no bytes", new Bytes(), 0, 2);
    expect("just a head", new Bytes().head(1000), 15, 2);
    expect("just a head and a tail", new Bytes().head(1000).tail(-1, 1000, 0, 0, 0, 0), 44, 2);
    expectWhole("no pages", new Bytes().head(1000).tail(-1, 1000, 0, 0, 0, 0).last(15), 0);
    expectWhole("a page", onPage().u1(140).tail(15, 1000, 0, 0, 0, 1).last(61), 1);
  }

  private static void order() {
    for (int command = 0; command < 256; command++) {
      if (command != 247) {
        expect("first " + command, new Bytes().u1(command), 0, 1);
      }
      boolean isBetween = command == 138 || command >= 243 && command <= 246;
      Bytes between = new Bytes().head(1000).u1(command);
      if (!isBetween && command != 139 && command != 248) {
        expect("between pages " + command, between, 15, 1);
      } else {
        expect("between pages " + command, between, command == 138 ? 16 : 15, 2);
      }
      Bytes behind = new Bytes().head(1000).tail(-1, 1000, 0, 0, 0, 0).u1(command);
      if (!isBetween && command != 249) {
        expect("behind the tail " + command, behind, 44, 1);
      } else {
        expect("behind the tail " + command, behind, command == 138 ? 45 : 44, 2);
      }
      if (command == 139 || command > 246) {
        expect("on a page " + command, onPage().u1(command), 60, 1);
      }
    }
    expectOpen("nothing on a page", onPage().u1(138, 138));
    expectOpen("a definition on a page", onPage().define(3, 77));
    expectOpen("behind a page", onPage().u1(140, 138).define(3, 77));
    expectOpen("behind the tail", new Bytes().head(1000).define(3, 77)
        .tail(-1, 1000, 0, 0, 0, 0).u1(138).define(3, 77));
  }

  /** What follows each command of a page, told by hand. */
  private static int bytesBehind(int command) {
    int[][] by = {
      {128, 1}, {129, 2}, {130, 3}, {131, 4}, {132, 8}, {133, 1}, {134, 2}, {135, 3}, {136, 4},
      {137, 8}, {143, 1}, {144, 2}, {145, 3}, {146, 4}, {148, 1}, {149, 2}, {150, 3}, {151, 4},
      {153, 1}, {154, 2}, {155, 3}, {156, 4}, {157, 1}, {158, 2}, {159, 3}, {160, 4}, {162, 1},
      {163, 2}, {164, 3}, {165, 4}, {167, 1}, {168, 2}, {169, 3}, {170, 4}, {235, 1}, {236, 2},
      {237, 3}, {238, 4}, {239, 1}, {240, 2}, {241, 3}, {242, 4}
    };
    for (int[] pair : by) {
      if (pair[0] == command) {
        return pair[1];
      }
    }
    return 0;
  }

  private static void missingBytes() {
    for (int command = 0; command < 243; command++) {
      int behind = bytesBehind(command);
      for (int n = 0; n < behind; n++) {
        expect(command + " with " + n, onPage().u1(command).u1(new int[n]), 60, 2);
      }
      boolean needsMore = command == 139 || command == 140 || command == 142
          || command >= 171 && command < 239;
      if (!needsMore) {
        expectOpen(command + " with all", withFont().u1(command).u1(new int[behind]));
      }
    }
    for (int n = 1; n <= 4; n++) {
      expect("special", onPage().u1(238 + n).un(n, 3).u1(1, 2), 60, 2);
      expectOpen("special", onPage().u1(238 + n).un(n, 3).u1(1, 2, 3));
      Bytes define = onPage().u1(242 + n).un(n, 3).s4(77, 0, 0).u1(2, 3, 9, 9, 9, 9, 9);
      expectOpen("definition", define);
      for (int size = 60; size < define.size(); size++) {
        if (size > 60) {
          byte[] part = Arrays.copyOf(define.toArray(), size);
          DviPages x = reader();
          DUE.is("part of a definition", Bytes.read(x, part), -61);
          DUE.is("part of a definition", x.fault(), 2);
        }
      }
    }
    expect("special below 0", onPage().u1(242).s4(-1), 60, 2);
    expect("least special", onPage().u1(242).s4(Integer.MIN_VALUE), 60, 2);
    expect("greatest special", onPage().u1(242).s4(Integer.MAX_VALUE), 60, 2);
    expectOpen("no bytes of a special", onPage().u1(239, 0));
    expect("page", new Bytes().head(1000).u1(139).u1(new int[43]), 15, 2);
    expect("tail", new Bytes().head(1000).u1(248).u1(new int[27]), 15, 2);
    expect("last", new Bytes().head(1000).tail(-1, 1000, 0, 0, 0, 0).u1(249).s4(15), 44, 2);
    expect("sign without a font", onPage().u1(129, 0), 60, 2);
  }

  private static Bytes head(int form, int numerator, int denominator, int m, int k) {
    return new Bytes().u1(247, form).s4(numerator, denominator, m).u1(k).u1(new int[k]);
  }

  private static void heads() {
    int n = Bytes.NUMERATOR;
    int d = Bytes.DENOMINATOR;
    expectOpen("head", head(2, n, d, 1000, 0));
    expectOpen("long head", head(2, n, d, 1000, 255));
    expectOpen("least magnification", head(2, n, d, 1, 7));
    expectOpen("greatest magnification", head(2, n, d, 32768, 7));
    expect("form", head(3, n, d, 1000, 0), 0, 8);
    expect("numerator", head(2, n + 1, d, 1000, 0), 0, 8);
    expect("denominator", head(2, n, d - 1, 1000, 0), 0, 8);
    expect("magnification 0", head(2, n, d, 0, 0), 0, 8);
    expect("magnification below 0", head(2, n, d, -1, 0), 0, 8);
    expect("magnification 32769", head(2, n, d, 32769, 0), 0, 8);
    expect("short", new Bytes().u1(247, 3).s4(n, d, 1000).u1(3, 0, 0), 0, 2);
    expect("a second one", head(2, n, d, 1000, 0).u1(247), 15, 1);
  }

  private static void fontsAndSigns() {
    expect("sign without a font", onPage().u1(65), 60, 3);
    expect("told is not at hand", onPage().define(3, 77).u1(65), 76, 3);
    expect("looked at before its number", onPage().u1(129).un(2, 256), 60, 3);
    expect("put without a font", onPage().u1(133, 1), 60, 3);
    expect("not on the next page", withFont().u1(140).page(1, 15).u1(65), 123, 3);
    expectOpen("told on the page before", withFont().u1(140).page(1, 15).u1(174, 65));
    expect("font not told", onPage().u1(171), 60, 3);
    expect("font not told, but there", onPage().u1(174), 60, 3);
    for (int n = 1; n <= 4; n++) {
      expectOpen("font 3 by " + n, onPage().define(3, 77).u1(234 + n).un(n, 3).u1(65));
      expect("font 4 by " + n, onPage().define(3, 77).u1(234 + n).un(n, 4), 76, 3);
      expectOpen("sign 255 by " + n, withFont().u1(127 + n).un(n, 255));
      expectOpen("sign 255 stays by " + n, withFont().u1(132 + n).un(n, 255));
      if (n > 1) {
        expect("font 256 by " + n, onPage().define(3, 77).u1(234 + n).un(n, 256), 76, 3);
        expect("font 259 by " + n, onPage().define(3, 77).u1(234 + n).un(n, 259), 76, 3);
        expect("sign 256 by " + n, withFont().u1(127 + n).un(n, 256), 77, 4);
        expect("sign 256 stays by " + n, withFont().u1(132 + n).un(n, 256), 77, 4);
        expect("greatest sign by " + n, withFont().u1(127 + n).un(n, -1), 77, 4);
        expect("greatest font by " + n, withFont().u1(234 + n).un(n, -1), 77, 3);
      }
    }
    expect("least sign", withFont().u1(131).s4(Integer.MIN_VALUE), 77, 4);
    DviPages x = expectOpen("the file's own numbers", onPage().define(0, 78).define(255, 77)
        .define(1, 78).u1(171, 65, 235, 255, 65, 172, 65));
    DUE.is("font of item 0", x.item(0, 4), 0);
    DUE.is("font of item 1", x.item(1, 4), 255);
    DUE.is("font of item 2", x.item(2, 4), 1);
    DUE.is("H of item 1", x.item(1, 2), -40);
    DUE.is("H of item 2", x.item(2, 2), 60);
  }

  private static void definitions() {
    expect("CHECK that no font has", onPage().define(3, 79), 60, 3);
    expectOpen("another number", onPage().define(4, 77));
    expectOpen("told twice", onPage().define(3, 77).define(3, 77));
    expectOpen("two numbers", onPage().define(3, 77).define(4, 77));
    expect("another CHECK", onPage().define(3, 77).define(3, 78), 76, 3);
    expect("256", onPage().u1(244).un(2, 256).s4(77, 0, 0).u1(0, 0), 60, 3);
    expect("65536", onPage().u1(245).un(3, 65536 + 3).s4(77, 0, 0).u1(0, 0), 60, 3);
    expect("-1", onPage().u1(246).s4(-1, 77, 0, 0).u1(0, 0), 60, 3);
    expectOpen("255", onPage().u1(246).s4(255, 77, -1, -1).u1(1, 0, 9));
    expect("behind the tail, not told", new Bytes().head(1000).tail(-1, 1000, 0, 0, 0, 0)
        .define(3, 77), 44, 3);
    expect("behind the tail, another CHECK", new Bytes().head(1000).define(3, 77)
        .tail(-1, 1000, 0, 0, 0, 0).define(3, 78), 60, 3);
    expect("between pages", new Bytes().head(1000).define(3, 79), 15, 3);
    expectWhole("not told again", new Bytes().head(1000).define(3, 77)
        .tail(-1, 1000, 0, 0, 0, 0).last(31), 0);
  }

  private static void piles() {
    expect("taken from an empty pile", onPage().u1(142), 60, 5);
    expect("taken once too often", onPage().u1(141, 142, 142), 62, 5);
    expect("a pile at the end", onPage().u1(141, 140), 61, 5);
    int[] hundred = new int[100];
    Arrays.fill(hundred, 141);
    expectOpen("a hundred", onPage().u1(hundred));
    DviPages x = expect("a hundred and one", onPage().u1(hundred).u1(141), 160, 6);
    DUE.is("not on the pile that is written", x.count(6), 0);
    int[] taken = new int[100];
    Arrays.fill(taken, 142);
    expectWhole("all taken", onPage().u1(hundred).u1(taken).u1(140)
        .tail(15, 1000, 0, 0, 100, 1).last(261), 1);
  }

  private static void pointers() {
    expect("first page", new Bytes().head(1000).page(0, 15), 15, 7);
    expect("second page", onPage().u1(140).page(0, -1), 61, 7);
    expect("third page", onPage().u1(140).page(0, 15).u1(140).page(0, 15), 107, 7);
    expectOpen("three pages", onPage().u1(140).page(0, 15).u1(140).page(0, 61));
    expect("tail", onPage().u1(140).tail(-1, 1000, 0, 0, 0, 1), 61, 7);
    expect("tail of none", new Bytes().head(1000).tail(15, 1000, 0, 0, 0, 0), 15, 7);
    expect("7 before 8", new Bytes().head(1000).tail(15, 1001, 0, 0, 0, 0), 15, 7);
    expect("last", new Bytes().head(1000).tail(-1, 1000, 0, 0, 0, 0).last(14), 44, 7);
    DviPages x = expect("no page", new Bytes().head(1000).page(0, 15), 15, 7);
    DUE.is("not begun", x.count(4), 0);
  }

  private static void tails() {
    Bytes body = onPage().u1(140);
    expectOpen("tail", onPage().u1(140).tail(15, 1000, 0, 0, 0, 1));
    expect("magnification", onPage().u1(140).tail(15, 1001, 0, 0, 0, 1), body.size(), 8);
    expect("V", onPage().u1(140).tail(15, 1000, 1, 0, 0, 1), 61, 8);
    expect("H", onPage().u1(140).tail(15, 1000, 0, 1, 0, 1), 61, 8);
    expect("pile", onPage().u1(140).tail(15, 1000, 0, 0, 1, 1), 61, 8);
    expect("pages", onPage().u1(140).tail(15, 1000, 0, 0, 0, 2), 61, 8);
    expect("numerator", onPage().u1(140, 248).s4(15, 0, Bytes.DENOMINATOR, 1000, 0, 0).un(2, 0, 1),
        61, 8);
    expect("denominator", onPage().u1(140, 248).s4(15, Bytes.NUMERATOR, 0, 1000, 0, 0).un(2, 0, 1),
        61, 8);
    expectOpen("greatest V, then H", withFont().u1(65, 161, 162, 50, 162, 0x9c, 143, 0x80).u1(141)
        .u1(143, 0x7f, 142, 140).tail(15, 1000, 50, 100, 1, 1));
    expectOpen("0 at least", onPage().u1(143, 0xff, 157, 0xff, 140).tail(15, 1000, 0, 0, 0, 1));
    Bytes pages = onPage().u1(143, 9, 141, 141, 142, 142, 140).page(0, 15).u1(157, 8, 141, 142, 140);
    expectOpen("over all pages", pages.tail(67, 1000, 8, 9, 2, 2));
  }

  private static void limits() {
    Bytes pages = new Bytes().head(1000);
    for (int i = 0; i < 20; i++) {
      pages.page(i, i == 0 ? -1 : 15 + 46 * (i - 1)).u1(140);
    }
    byte[] twenty = pages.toArray();
    DviPages x = expect("a 21st page", pages.page(20, 15 + 46 * 19), twenty.length, 9);
    DUE.is("20 pages", x.count(4), 20);
    DUE.is("count of page 19", x.counted(19, 0), 19);
    DUE.is("count of page 20", x.counted(20, 0), NONE);
    int[] signs = new int[600];
    x = expect("a 601st sign", withFont().u1(signs).u1(0), 677, 9);
    DUE.is("600 items", x.count(5), 600);
    DUE.is("item 599", x.item(599, 5), 0);
    DUE.is("item 600", x.item(600, 5), NONE);
    expect("a 601st rule", withFont().u1(signs).u1(132).s4(1, 1), 677, 9);
    expect("a 601st special", withFont().u1(signs).u1(239, 0), 677, 9);
    expect("3 before 9", withFont().u1(signs).u1(140).page(0, 15).u1(0), 723, 3);
    expectOpen("no rule", withFont().u1(signs).u1(132).s4(0, 1).u1(143, 1, 141, 142));
    farAway();
  }

  private static void farAway() {
    int[][] axes = {{146, 151, 156}, {160, 165, 170}};
    for (int[] axis : axes) {
      for (int command : axis) {
        expectOpen("just there", onPage().u1(command).s4(FAR));
        expectOpen("just there, back", onPage().u1(command).s4(-FAR));
        expect("farther", onPage().u1(command).s4(FAR + 1), 60, 9);
        expect("farther back", onPage().u1(command).s4(-FAR - 1), 60, 9);
        expect("greatest", onPage().u1(command).s4(Integer.MAX_VALUE), 60, 9);
        expect("least", onPage().u1(command).s4(Integer.MIN_VALUE), 60, 9);
        expect("one more", onPage().u1(axis[0]).s4(FAR).u1(command).s4(1), 65, 9);
      }
    }
    expect("once more by W", onPage().u1(151).s4(FAR).u1(147), 65, 9);
    expect("once more by X", onPage().u1(156).s4(FAR).u1(152), 65, 9);
    expect("once more by Y", onPage().u1(165).s4(FAR).u1(161), 65, 9);
    expect("once more by Z", onPage().u1(170).s4(FAR).u1(166), 65, 9);
    DviPages x = expect("a sign", withFont().u1(146).s4(FAR - 99).u1(65), 82, 9);
    DUE.is("does not stand", x.count(5), 0);
    expectOpen("a sign that stays", withFont().u1(146).s4(FAR - 99).u1(133, 65));
    expectOpen("a sign just there", withFont().u1(146).s4(FAR - 100).u1(65));
    x = expect("a rule", onPage().u1(132).s4(1, FAR + 1), 60, 9);
    DUE.is("does not stand", x.count(5), 0);
    expect("no rule", onPage().u1(132).s4(0, -FAR - 1), 60, 9);
    x = expectOpen("a rule that stays", onPage().u1(137).s4(Integer.MAX_VALUE, Integer.MAX_VALUE));
    DUE.is("stands", x.item(0, 5), Integer.MAX_VALUE);
  }

  private static void endings() {
    expectWhole("46 bytes and two for nothing", tailed().u1(138, 138).last(15), 0);
    expectWhole("many fillers", tailed().u1(138, 138).last(15).u1(223, 223, 223, 223), 0);
    expect("not a multiple of four", tailed().u1(138, 138).last(15).u1(223), 46, 10);
    expect("three fillers", tailed().u1(138, 138, 138, 249).s4(15).u1(2, 223, 223, 223), 47, 10);
    expect("no fillers", tailed().u1(138, 138, 249).s4(15).u1(2), 46, 10);
    expect("no filler", tailed().u1(138, 138, 249).s4(15).u1(2, 223, 223, 222, 223), 46, 10);
    expect("no last filler", tailed().u1(138, 138, 249).s4(15).u1(2, 223, 223, 223, 0), 46, 10);
    expect("nothing behind", tailed().last(15).u1(138, 138, 138, 138), 44, 10);
    expect("form", tailed().u1(138, 138, 249).s4(15).u1(3, 223, 223, 223, 223), 46, 8);
    expect("8 before 10", tailed().u1(249).s4(15).u1(3), 44, 8);
    expect("7 before 8", tailed().u1(249).s4(16).u1(3), 44, 7);
    expect("length of all bytes", onPage().u1(140, 138).tail(15, 1000, 0, 0, 0, 1)
        .u1(249).s4(62).u1(2, 223, 223, 223, 223), 91, 10);
  }

  private static void expectItem(DviPages x, int i, long... want) {
    for (int what = 0; what < want.length; what++) {
      DUE.is("item " + i + ", " + what, x.item(i, what), want[what]);
    }
  }

  private static void items() {
    DviPages x = expectOpen("items", withFont().u1(157, 7, 65, 128, 200, 133, 65, 132).s4(3, 4)
        .u1(137).s4(5, 6).u1(240).un(2, 3).u1(1, 2, 3).u1(239, 0).u1(140).page(0, 15)
        .define(70, 78).u1(235, 70, 65, 136).s4(255));
    expectItem(x, 0, 0, 0, 0, 7, 3, 65, 0, 7);
    expectItem(x, 1, 0, 0, 100, 7, 3, 200, 100, 7);
    expectItem(x, 2, 0, 0, 1000100, 7, 3, 65, 1000100, 7);
    expectItem(x, 3, 0, 1, 1000100, 7, 3, 4, 1000100, 7);
    expectItem(x, 4, 0, 1, 1000104, 7, 5, 6, 1000104, 7);
    // Behind 77 bytes come 7 of signs, 18 of rules, and 3 before the special's own.
    expectItem(x, 5, 0, 2, 1000104, 7, 3, 105, 1000104, 7);
    expectItem(x, 6, 0, 2, 1000104, 7, 0, 110, 1000104, 7);
    expectItem(x, 7, 1, 0, 0, 0, 70, 65, 0, 0);
    expectItem(x, 8, 1, 0, -40, 0, 70, 255, -40, 0);
    expectItem(x, 9, NONE, NONE, NONE, NONE, NONE, NONE, NONE, NONE);
    expectItem(x, -1, NONE, NONE, NONE, NONE, NONE, NONE, NONE, NONE);
    DUE.is("what -1", x.item(0, -1), NONE);
    DUE.is("what 8", x.item(0, 8), NONE);
    DUE.is("what -1 of another", x.item(1, -1), NONE);
    DUE.is("greatest", x.item(Integer.MAX_VALUE, 0), NONE);
    DUE.is("least", x.item(Integer.MIN_VALUE, 6), NONE);
    x.width(3, 65, 5);
    x.drop();
    x.load(1, 1);
    expectItem(x, 1, 0, 0, 100, 7, 3, 200, 100, 7);
  }

  private static void rules() {
    DviPages x = expectOpen("rules", onPage().u1(132).s4(0, 10).u1(132).s4(5, 0).u1(132).s4(-1, 3)
        .u1(132).s4(4, -2).u1(137).s4(0, 7).u1(137).s4(7, -7).u1(132).s4(1, 1).u1(239, 0));
    DUE.is("items", x.count(5), 2);
    expectItem(x, 0, 0, 1, 11, 0, 1, 1);
    expectItem(x, 1, 0, 2, 12, 0);
  }

  /** After each move a special without bytes tells where it is. */
  private static void moves() {
    int[] first = {143, 157};
    int[] steps = {64, 16384, 4194304, 1 << 28};
    for (int axis = 0; axis < 2; axis++) {
      Bytes bytes = onPage();
      List<Long> want = new ArrayList<>();
      int at = first[axis];
      long place = 0;
      for (int n = 1; n <= 4; n++) {
        bytes.u1(at + n - 1).un(n, -n).u1(239, 0);
        place -= n;
        want.add(place);
      }
      for (int remembered = at + 4; remembered <= at + 9; remembered += 5) {
        bytes.u1(remembered, 239, 0);
        want.add(place);
        for (int n = 1; n <= 4; n++) {
          int step = steps[n - 1];
          bytes.u1(remembered + n).un(n, step).u1(239, 0, remembered, 239, 0);
          bytes.u1(remembered + n).un(n, -step).u1(239, 0, remembered, 239, 0);
          want.addAll(List.of(place + step, place + 2L * step, place + step, place));
        }
      }
      DviPages x = expectOpen("moves", bytes);
      for (int i = 0; i < want.size(); i++) {
        DUE.is("after move " + i, x.item(i, 2 + axis), want.get(i));
        DUE.is("the other after move " + i, x.item(i, 3 - axis), 0);
      }
    }
    DviPages x = expectOpen("s1 to s4 have signs", onPage().u1(143, 0x80, 239, 0, 144, 0x80, 0, 239, 0)
        .u1(145, 0x80, 0, 0, 239, 0, 146, 0xff, 0, 0, 0, 239, 0));
    DUE.is("s1", x.item(0, 2), -128);
    DUE.is("s2", x.item(1, 2), -128 - 32768);
    DUE.is("s3", x.item(2, 2), -128 - 32768 - 8388608);
    DUE.is("s4", x.item(3, 2), -128 - 32768 - 8388608 - 16777216);
  }

  private static void places() {
    DviPages x = expectOpen("pile", onPage().u1(148, 1, 153, 2, 162, 3, 167, 4, 141)
        .u1(148, 11, 153, 12, 162, 13, 167, 14, 239, 0, 142, 239, 0)
        .u1(147, 239, 0, 152, 239, 0, 161, 239, 0, 166, 239, 0, 140)
        .page(0, 15).u1(147, 152, 161, 166, 239, 0));
    expectItem(x, 0, 0, 2, 26, 34);
    expectItem(x, 1, 0, 2, 3, 7);
    expectItem(x, 2, 0, 2, 4, 7);
    expectItem(x, 3, 0, 2, 6, 7);
    expectItem(x, 4, 0, 2, 6, 10);
    expectItem(x, 5, 0, 2, 6, 14);
    expectItem(x, 6, 1, 2, 0, 0);
  }

  private static void magnified() {
    DviPages x = reader();
    new Bytes().head(1500).page(0, -1).u1(143, 0xff, 157, 1, 239, 0).readBy(x);
    DUE.is("H, next lower", x.item(0, 6), -2);
    DUE.is("V, next lower", x.item(0, 7), 1);
    new Bytes().head(32768).page(0, -1).u1(146).s4(-FAR).u1(160).s4(FAR).u1(239, 0).readBy(x);
    DUE.is("least H", x.item(0, 6), Math.floorDiv(-FAR * 32768L, 1000L));
    DUE.is("greatest V", x.item(0, 7), FAR * 32768L / 1000);
    x.magnify(5);
    DUE.is("as it was read", x.item(0, 7), FAR * 32768L / 1000);
    new Bytes().head(1).page(0, -1).u1(143, 0xff, 157, 1, 239, 0).readBy(x);
    DUE.is("just below 0", x.item(0, 6), -1);
    DUE.is("just above 0", x.item(0, 7), 0);
  }

  private static void readTwice() {
    DviPages x = reader();
    withFont().u1(141, 147, 65).readBy(x);
    DUE.is("items", x.count(5), 1);
    DUE.is("pages", x.count(4), 1);
    DUE.is("fault", x.fault(), 2);
    x.drop();
    x.load(247, 1);
    DUE.is("bytes are not read yet", x.count(5), 1);
    DUE.is("read", x.read(), -1);
    DUE.is("items are gone", x.count(5), 0);
    DUE.is("pages are gone", x.count(4), 0);
    DUE.is("item is gone", x.item(0, 0), NONE);
    DUE.is("count is gone", x.counted(0, 0), NONE);
    DUE.is("fonts are not told", onPage().u1(174).readBy(x), -61);
    DUE.is("fault", x.fault(), 3);
    DUE.is("whole", onPage().u1(140).tail(15, 1000, 0, 0, 0, 1).last(61).readBy(x), 1);
    DUE.is("no fault", x.fault(), 0);
    DUE.is("again", x.read(), 1);
    DUE.is("pages", x.count(4), 1);
    x.width(3, 65, 8);
    withFont().u1(65, 65).readBy(x);
    DUE.is("widths as they are when it is read", x.item(1, 2), 8);
  }
}
