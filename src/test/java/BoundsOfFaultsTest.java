import java.util.Arrays;

/** The bounds of commands and the faults that the document's terms name, a sentence for each test. */
public final class BoundsOfFaultsTest {
  private static final long NONE = -1000000000000L;
  private static final int MIN = Integer.MIN_VALUE;
  private static final int MAX = Integer.MAX_VALUE;
  private static final int FAR = Made.FAR;
  private static final Due DUE = new Due();
  private static final Reader READER = new Reader(DUE);

  public static void main(String[] args) {
    signs();
    rulesBothAbove0();
    pageBegins();
    pageBeginsAnew();
    movesWithSign();
    movesRemembered();
    fontsAtHand();
    specials();
    definitions();
    checks();
    heads();
    tails();
    ends();
    whereCommandsStand();
    bytesNotAllThere();
    anotherMustCome();
    notAtHandOrNotTold();
    piles();
    notWhereItSays();
    twentyPages();
    sixHundredThings();
    tooFar();
    firstFaultOfACommand();
    whatCameBeforeStays();
    DUE.end();
  }

  private static DviPages open(String what, Bytes bytes) {
    return READER.open(what, bytes);
  }

  private static DviPages stops(String what, Bytes bytes, int at, int fault) {
    return READER.stops(what, bytes, at, fault);
  }

  private static Bytes onPage() {
    return Reader.onPage();
  }

  private static Bytes withFont() {
    return Reader.withFont();
  }

  private static int[] times(int n, int octet) {
    int[] octets = new int[n];
    Arrays.fill(octets, octet);
    return octets;
  }

  private static void itemIs(DviPages x, int i, long... want) {
    for (int what = 0; what < want.length; what++) {
      DUE.is("item " + i + ", " + what, x.item(i, what), want[what]);
    }
  }

  /** "0 .. 127: that sign; 128, 129, 130, 131: the sign u1, u2, u3, s4"; "4 a sign not 0 to 255" */
  private static void signs() {
    for (int sign : new int[] {0, 127}) {
      itemIs(open("sign " + sign, withFont().u1(sign)), 0, 0, 0, 0, 0, 3, sign);
    }
    for (int n = 1; n <= 4; n++) {
      for (int first : new int[] {128, 133}) {
        int command = first + n - 1;
        for (int sign : new int[] {0, 1, 127, 128, 255}) {
          DviPages x = open(command + " " + sign, withFont().u1(command).un(n, sign));
          itemIs(x, 0, 0, 0, 0, 0, 3, sign);
        }
        if (n > 1) {
          for (int sign : new int[] {256, 257, 65535, 1 << (8 * n - 1), -1, -256}) {
            DviPages x = stops(command + " " + sign, withFont().u1(command).un(n, sign), 77, 4);
            DUE.is("none stands", x.count(5), 0);
          }
        }
      }
    }
    stops("least", withFont().u1(131).s4(MIN), 77, 4);
    stops("greatest", withFont().u1(136).s4(MAX), 77, 4);
  }

  /** "a rule, if both are above 0, then H grows by the width (in any case)" */
  private static void rulesBothAbove0() {
    int[] edges = {-FAR, -1, 0, 1, FAR};
    for (int height : new int[] {MIN, -1, 0, 1, MAX}) {
      for (int width : edges) {
        boolean stands = height > 0 && width > 0;
        DviPages x = open("132", onPage().u1(132).s4(height, width).u1(239, 0));
        DUE.is("things", x.count(5), stands ? 2 : 1);
        DUE.is("H grows", x.item(stands ? 1 : 0, 2), width);
        if (stands) {
          itemIs(x, 0, 0, 1, 0, 0, height, width);
        }
        x = open("137", onPage().u1(137).s4(height, width).u1(239, 0));
        DUE.is("things", x.count(5), stands ? 2 : 1);
        DUE.is("H stays", x.item(stands ? 1 : 0, 2), 0);
      }
    }
    for (int width : new int[] {MIN, MAX}) {
      stops("too wide", onPage().u1(132).s4(1, width), 60, 9);
      open("it stays", onPage().u1(137).s4(1, width));
    }
  }

  /** "ten s4 counts, and s4 where the one before began (-1: none)" */
  private static void pageBegins() {
    stops("0", new Bytes().head(1000).page(0, 0), 15, 7);
    stops("-2", new Bytes().head(1000).page(0, -2), 15, 7);
    open("-1", new Bytes().head(1000).page(0, -1));
    open("15", onPage().u1(140).page(0, 15));
    for (int before : new int[] {MIN, -1, 0, 14, 16, 61, MAX}) {
      stops("" + before, onPage().u1(140).page(0, before), 61, 7);
    }
    open("behind others", new Bytes().head(1000).u1(138, 138).page(0, -1).u1(140, 138).page(0, 17));
  }

  /** "H, V, W, X, Y, Z are 0, the pile is empty, no font is at hand" */
  private static void pageBeginsAnew() {
    Bytes first = withFont().u1(65, 148, 1, 153, 2, 162, 3, 167, 4, 140);
    int size = first.size();
    DviPages x = open("a second page", first.page(0, 15).u1(239, 0, 147, 152, 161, 166, 239, 0));
    itemIs(x, 1, 1, 2, 0, 0);
    itemIs(x, 2, 1, 2, 0, 0);
    stops("no font", withFont().u1(65, 148, 1, 153, 2, 162, 3, 167, 4, 140).page(0, 15).u1(65),
        size + 45, 3);
    stops("no pile", withFont().u1(141, 142, 140).page(0, 15).u1(142), 125, 5);
  }

  /** "143 .. 146: H grows by s1 .. s4", and so with all moves */
  private static void movesWithSign() {
    int[] first = {143, 148, 153, 157, 162, 167};
    for (int f = 0; f < first.length; f++) {
      for (int n = 1; n <= 4; n++) {
        long edge = n == 4 ? FAR : 1L << (8 * n - 1);
        for (long by : new long[] {-edge, -edge + 1, -1, 0, 1, edge - 1}) {
          DviPages x = open("move " + by, onPage().u1(first[f] + n - 1).un(n, by).u1(239, 0));
          DUE.is("H", x.item(0, 2), f < 3 ? by : 0);
          DUE.is("V", x.item(0, 3), f < 3 ? 0 : by);
        }
      }
    }
  }

  /** "147: by W; 148 .. 151: W becomes s1 .. s4" and so with X, Y and Z, each by itself */
  private static void movesRemembered() {
    int[] again = {147, 152, 161, 166};
    for (int command : again) {
      for (int other : again) {
        DviPages x = open("move", onPage().u1(command + 1, -7, other, 239, 0));
        long way = command == other ? -14 : -7;
        DUE.is(command + " then " + other, x.item(0, command < 157 ? 2 : 3), way);
        DUE.is("the other way", x.item(0, command < 157 ? 3 : 2), 0);
      }
    }
  }

  /** "171 .. 234: font 0 to 63 is at hand; 235, 236, 237, 238: font u1, u2, u3, s4" */
  private static void fontsAtHand() {
    for (int number : new int[] {0, 1, 62, 63}) {
      DviPages x = open("font " + number, onPage().define(number, 77).u1(171 + number, 65));
      DUE.is("font", x.item(0, 4), number);
      stops("another", onPage().define(number ^ 1, 77).u1(171 + number), 76, 3);
    }
    for (int n = 1; n <= 4; n++) {
      for (int number : new int[] {0, 63, 64, 254, 255}) {
        DviPages x = open("font " + number, onPage().define(number, 77).u1(234 + n).un(n, number)
            .u1(65));
        DUE.is("font", x.item(0, 4), number);
      }
      if (n > 1) {
        for (int number : new int[] {256, 256 + 255, 1 << (8 * n - 1), -1}) {
          stops("font " + number, onPage().define(255, 77).define(0, 78).u1(234 + n).un(n, number),
              92, 3);
        }
      }
    }
    stops("least", onPage().define(0, 77).u1(238).s4(MIN), 76, 3);
  }

  /** "how many bytes of a SPECIAL, then these"; "also s4 of a special below 0" */
  private static void specials() {
    for (int n = 1; n <= 4; n++) {
      for (int bytes : new int[] {0, 1, 2, 254, 255, 256, 65535, 65536}) {
        if (bytes < 1L << (8 * n) && bytes < 7000) {
          Bytes file = onPage().u1(238 + n).un(n, bytes);
          int from = file.size();
          itemIs(open("special", file.u1(new int[bytes])), 0, 0, 2, 0, 0, bytes, from);
        }
        if (bytes > 0 && bytes < 1L << (8 * n)) {
          Bytes file = onPage().u1(238 + n).un(n, bytes).u1(new int[Math.min(bytes - 1, 7000)]);
          DUE.is("none stands", stops("a byte less", file, 60, 2).count(5), 0);
        }
      }
      stops("no number", onPage().u1(238 + n).u1(new int[n - 1]), 60, 2);
      if (n < 4) {
        stops("without sign", onPage().u1(238 + n).un(n, -1).u1(new int[200]), 60, 2);
      }
    }
    for (int bytes : new int[] {MIN, MIN + 1, -256, -1, 3, MAX - 1, MAX}) {
      stops("special of " + bytes, onPage().u1(242).s4(bytes).u1(0, 0), 60, 2);
    }
    open("0", onPage().u1(242).s4(0));
  }

  private static Bytes definition(Bytes file, int n, int number, int a, int l) {
    return file.u1(242 + n).un(n, number).s4(77, MIN, MAX).u1(a, l);
  }

  /** "a number u1, u2, u3, s4, ... u1 a, u1 l, and a + l bytes"; "a number not 0 to 255" */
  private static void definitions() {
    for (int n = 1; n <= 4; n++) {
      for (int number : new int[] {0, 1, 254, 255}) {
        DviPages x = open("number " + number, definition(onPage(), n, number, 0, 0)
            .u1(235, number, 65));
        DUE.is("font", x.item(0, 4), number);
      }
      if (n > 1) {
        for (int number : new int[] {256, 257, 1 << (8 * n - 1), -1, -256}) {
          stops("number " + number, definition(onPage(), n, number, 0, 0), 60, 3);
        }
      }
      int[][] lengths = {{0, 0}, {1, 0}, {0, 1}, {255, 0}, {0, 255}, {255, 255}};
      for (int[] pair : lengths) {
        int more = pair[0] + pair[1];
        open("all bytes", definition(onPage(), n, 5, pair[0], pair[1]).u1(new int[more]));
        if (more > 0) {
          stops("a byte less", definition(onPage(), n, 5, pair[0], pair[1]).u1(new int[more - 1]),
              60, 2);
        }
      }
    }
    stops("least number", definition(onPage(), 4, MIN, 0, 0), 60, 3);
    stops("greatest number", definition(onPage(), 4, MAX, 0, 0), 60, 3);
  }

  /** "a CHECK that no font has, a number told before with another CHECK, or, behind the tail, ..." */
  private static void checks() {
    for (int check : new int[] {MIN, 0, 76, 79, 77 + 256, -77, MAX}) {
      stops("CHECK " + check, onPage().define(3, check), 60, 3);
      stops("between pages", new Bytes().head(1000).define(3, check), 15, 3);
    }
    open("CHECK of the other font", onPage().define(3, 78));
    open("again", onPage().define(3, 78).define(3, 78));
    open("another number", onPage().define(3, 78).define(4, 78));
    stops("another CHECK", onPage().define(3, 78).define(3, 77), 76, 3);
    stops("on another page", withFont().u1(140).page(0, 15).define(3, 78), 123, 3);
    Bytes told = new Bytes().head(1000).define(3, 77).tail(-1, 1000, 0, 0, 0, 0);
    open("behind the tail", told.define(3, 77).define(3, 77));
    stops("behind the tail, another CHECK", new Bytes().head(1000).define(3, 77)
        .tail(-1, 1000, 0, 0, 0, 0).define(3, 78), 60, 3);
    stops("behind the tail, not told", new Bytes().head(1000).define(3, 77)
        .tail(-1, 1000, 0, 0, 0, 0).define(4, 77), 60, 3);
    DviPages x = new DviPages();
    int[] edges = {MIN, -1, 0, MAX};
    for (int i = 0; i < edges.length; i++) {
      x.font(10 + i, edges[i]);
    }
    for (int check : edges) {
      DUE.is("CHECK " + check, onPage().define(200, check).readBy(x), -77);
      DUE.is("fault", x.fault(), 2);
    }
    DviPages none = new DviPages();
    DUE.is("there are no fonts", onPage().define(0, 0).readBy(none), -61);
    DUE.is("fault", none.fault(), 3);
  }

  private static Bytes head(int form, int numerator, int denominator, int m, int k) {
    return new Bytes().u1(247, form).s4(numerator, denominator, m).u1(k);
  }

  /** "u1 2, s4 25400000, s4 473628672, s4 MAGNIFICATION (1 to 32768), u1 k, and k bytes (any)" */
  private static void heads() {
    int n = Bytes.NUMERATOR;
    int d = Bytes.DENOMINATOR;
    for (int m : new int[] {1, 2, 32767, 32768}) {
      open("magnification " + m, head(2, n, d, m, 0));
    }
    for (int m : new int[] {MIN, -1, 0, 32769, 65536 + 1000, MAX}) {
      stops("magnification " + m, head(2, n, d, m, 0), 0, 8);
    }
    for (int form : new int[] {0, 1, 3, 255}) {
      stops("form " + form, head(form, n, d, 1000, 0), 0, 8);
    }
    for (int by : new int[] {-1, 1}) {
      stops("numerator", head(2, n + by, d, 1000, 0), 0, 8);
      stops("denominator", head(2, n, d + by, 1000, 0), 0, 8);
    }
    for (int k : new int[] {0, 1, 255}) {
      open("k bytes", head(2, n, d, 1000, k).u1(times(k, 247)));
      if (k > 0) {
        stops("a byte less", head(2, n, d, 1000, k).u1(times(k - 1, 247)), 0, 2);
      }
    }
  }

  /** "248: the TAIL": each number as it is, one more and one less */
  private static void tails() {
    Bytes page = withFont().u1(65, 157, 40, 141, 141, 142, 142, 140);
    int at = page.size();
    int[] right = {15, Bytes.NUMERATOR, Bytes.DENOMINATOR, 1000, 40, 100, 2, 1};
    open("tail", tail(page, right));
    for (int i = 0; i < right.length; i++) {
      for (int by : new int[] {-1, 1}) {
        int[] wrong = right.clone();
        wrong[i] += by;
        Bytes again = withFont().u1(65, 157, 40, 141, 141, 142, 142, 140);
        stops("number " + i + " by " + by, tail(again, wrong), at, i == 0 ? 7 : 8);
      }
    }
    for (int v : new int[] {-1, 0}) {
      Bytes file = onPage().u1(143, v, 157, v, 140);
      int[] none = {15, Bytes.NUMERATOR, Bytes.DENOMINATOR, 1000, 0, 0, 0, 1};
      open("0 at least", tail(file, none));
    }
    Bytes far = onPage().u1(146).s4(FAR).u1(160).s4(FAR).u1(140);
    open("2 to the 30th", far.tail(15, 1000, FAR, FAR, 0, 1));
    Bytes pile = onPage().u1(times(100, 141)).u1(times(100, 142)).u1(140);
    open("a hundred", pile.tail(15, 1000, 0, 0, 100, 1));
  }

  private static Bytes tail(Bytes file, int[] numbers) {
    return file.u1(248).s4(numbers[0], numbers[1], numbers[2], numbers[3], numbers[4], numbers[5])
        .un(2, numbers[6], numbers[7]);
  }

  /** Behind 44 bytes and so many that do nothing. */
  private static Bytes end(int nothing, int tail, int form, int fillers) {
    return Reader.tailed().u1(times(nothing, 138)).u1(249).s4(tail).u1(form)
        .u1(times(fillers, 223));
  }

  /** "bytes 223, four at least, to the end; all bytes are a multiple of four"; fault 10 */
  private static void ends() {
    for (int nothing = 0; nothing < 4; nothing++) {
      for (int fillers = 0; fillers <= 12; fillers++) {
        int size = 44 + nothing + 6 + fillers;
        String what = nothing + " and " + fillers;
        if (fillers >= 4 && size % 4 == 0) {
          READER.whole(what, end(nothing, 15, 2, fillers), 0);
        } else {
          stops(what, end(nothing, 15, 2, fillers), 44 + nothing, 10);
        }
      }
    }
    for (int wrong = 0; wrong < 6; wrong++) {
      for (int octet : new int[] {0, 138, 222, 224, 249, 255}) {
        Bytes file = Reader.tailed().u1(249).s4(15).u1(2).u1(times(wrong, 223)).u1(octet)
            .u1(times(5 - wrong, 223));
        stops("filler " + wrong, file, 44, 10);
      }
    }
    for (int tail : new int[] {MIN, -1, 0, 14, 16, 44, MAX}) {
      stops("tail at " + tail, end(0, tail, 2, 6), 44, 7);
    }
    for (int form : new int[] {0, 1, 3, 255}) {
      stops("form " + form, end(0, 15, form, 6), 44, 8);
    }
  }

  /** "1 it cannot stand there, or is none (250 ..; at first just 247)" */
  private static void whereCommandsStand() {
    for (int command : new int[] {0, 138, 139, 243, 246, 248, 249, 250, 255}) {
      stops("at first " + command, new Bytes().u1(command).u1(new int[60]), 0, 1);
    }
    for (int command : new int[] {0, 137, 140, 141, 142, 171, 242, 247, 249, 250, 255}) {
      stops("before pages " + command, new Bytes().head(1000).u1(command).u1(new int[60]), 15, 1);
      stops("behind a page " + command, onPage().u1(140, command).u1(new int[60]), 61, 1);
    }
    for (int command : new int[] {139, 247, 248, 249, 250, 255}) {
      stops("on a page " + command, onPage().u1(command).u1(new int[60]), 60, 1);
    }
    for (int command : new int[] {0, 137, 139, 140, 242, 247, 248, 250, 255}) {
      stops("behind the tail " + command, Reader.tailed().u1(command).u1(new int[60]), 44, 1);
    }
    open("138 on a page", onPage().u1(138));
    open("138 between pages", new Bytes().head(1000).u1(138));
    open("138 behind a page", onPage().u1(140, 138));
    open("138 behind the tail", Reader.tailed().u1(138));
  }

  /** "2 its bytes are not all there": all of a whole file but what is cut off */
  private static void bytesNotAllThere() {
    Bytes file = new Bytes().head(1000).page(0, -1).define(3, 77).u1(174, 65, 132).s4(1, 1)
        .u1(151).s4(5).u1(242).s4(2).u1(1, 2, 140);
    int tail = file.size();
    byte[] whole = file.tail(15, 1000, 0, 106, 0, 1).define(3, 77).last(tail).toArray();
    int[] begins = {0, 15, 60, 76, 77, 78, 87, 92, 99, tail, tail + 29, tail + 45};
    DviPages x = Reader.made();
    DUE.is("whole", Bytes.read(x, whole), 1);
    for (int size = 0; size < tail + 51; size++) {
      int at = 0;
      for (int begin : begins) {
        at = begin <= size ? begin : at;
      }
      DUE.is("cut at " + size, Bytes.read(x, Arrays.copyOf(whole, size)), -1 - at);
      DUE.is("cut at " + size, x.fault(), 2);
    }
    for (int size = tail + 51; size < whole.length; size++) {
      DUE.is("cut at " + size, Bytes.read(x, Arrays.copyOf(whole, size)), -1 - (tail + 45));
      DUE.is("cut at " + size, x.fault(), 10);
    }
  }

  /** "(also when another one must come: then at the length)" */
  private static void anotherMustCome() {
    stops("a head", new Bytes(), 0, 2);
    stops("a page or a tail", new Bytes().head(1000), 15, 2);
    stops("a page or a tail, behind others", new Bytes().head(1000).u1(138, 138), 17, 2);
    stops("something on the page", onPage(), 60, 2);
    stops("behind a page", onPage().u1(140), 61, 2);
    stops("behind the tail", Reader.tailed(), 44, 2);
    stops("behind the tail and others", Reader.tailed().u1(138), 45, 2);
  }

  /** "3 a sign (looked at before its number) or font that is not at hand or not told" */
  private static void notAtHandOrNotTold() {
    for (int command : new int[] {0, 127}) {
      stops("sign", onPage().u1(command), 60, 3);
    }
    for (int n = 1; n <= 4; n++) {
      stops("sign, none at hand", onPage().define(3, 77).u1(127 + n).un(n, 255), 76, 3);
      stops("sign that stays", onPage().define(3, 77).u1(132 + n).un(n, 255), 76, 3);
      if (n > 1) {
        stops("before its number", onPage().u1(127 + n).un(n, 256), 60, 3);
        stops("before its number, stays", onPage().u1(132 + n).un(n, 256), 60, 3);
      }
    }
    stops("an object's font, not told", onPage().u1(174), 60, 3);
    stops("told, another one", onPage().define(3, 77).u1(175), 76, 3);
    open("told before the page", new Bytes().head(1000).define(3, 77).page(0, -1).u1(174, 65));
    open("told between pages", onPage().u1(140).define(3, 77).page(0, 15).u1(174, 65));
    stops("fonts do not go on a pile", onPage().u1(141).define(3, 77).u1(174, 142, 65, 250), 80, 1);
  }

  /** "5 a pile that is empty is taken from, or is not at 140; 6 a hundred are on it already" */
  private static void piles() {
    stops("empty", onPage().u1(142), 60, 5);
    open("one", onPage().u1(141, 142));
    stops("one, taken twice", onPage().u1(141, 142, 142), 62, 5);
    stops("one at 140", onPage().u1(141, 140), 61, 5);
    stops("a hundred at 140", onPage().u1(times(100, 141)).u1(140), 160, 5);
    open("none at 140", onPage().u1(141, 142, 140));
    open("99 and one more", onPage().u1(times(99, 141)).u1(141));
    open("a hundred, one less, one more", onPage().u1(times(100, 141)).u1(142, 141));
    stops("a hundred and one more", onPage().u1(times(100, 141)).u1(141), 160, 6);
    open("all taken", onPage().u1(times(100, 141)).u1(times(100, 142)).u1(140));
    stops("one too many taken", onPage().u1(times(100, 141)).u1(times(101, 142)), 260, 5);
  }

  /** "7 it is not where s4 says" */
  private static void notWhereItSays() {
    for (int by : new int[] {-1, 1}) {
      stops("the page before", onPage().u1(140).page(0, 15 + by), 61, 7);
      stops("the last page", onPage().u1(140).tail(15 + by, 1000, 0, 0, 0, 1), 61, 7);
      stops("no page", new Bytes().head(1000).tail(-1 + by, 1000, 0, 0, 0, 0), 15, 7);
      stops("the tail", end(0, 15 + by, 2, 6), 44, 7);
    }
    stops("the first page of two", onPage().u1(140).page(0, 15).u1(140)
        .tail(15, 1000, 0, 0, 0, 2), 107, 7);
    stops("none of one", onPage().u1(140).tail(-1, 1000, 0, 0, 0, 1), 61, 7);
  }

  private static Bytes pages(int n) {
    Bytes file = new Bytes().head(1000);
    for (int i = 0; i < n; i++) {
      file.page(i, i == 0 ? -1 : 15 + 46 * (i - 1)).u1(140);
    }
    return file;
  }

  /** "9 a 21st page" */
  private static void twentyPages() {
    DUE.is("19", open("19 pages", pages(19)).count(4), 19);
    DUE.is("20", open("20 pages", pages(20)).count(4), 20);
    DviPages x = stops("21 pages", pages(21), 15 + 46 * 20, 9);
    DUE.is("20 stay", x.count(4), 20);
    DUE.is("the last of them", x.counted(19, 0), 19);
    stops("7 before 9", pages(20).page(0, -1), 15 + 46 * 20, 7);
    open("the tail behind 20", pages(20).tail(15 + 46 * 19, 1000, 0, 0, 0, 20));
  }

  /** "a 601st thing that stands (sign, rule, special)" */
  private static void sixHundredThings() {
    Bytes mixed = withFont();
    for (int i = 0; i < 200; i++) {
      mixed.u1(65, 137).s4(1, 1).u1(239, 0);
    }
    byte[] sixHundred = mixed.toArray();
    int[][] things = {
      {1}, {128, 1}, {133, 1}, {131, 0, 0, 0, 255}, {132, 0, 0, 0, 1, 0, 0, 0, 1},
      {137, 0, 0, 0, 1, 0, 0, 0, 1}, {239, 0}, {240, 0, 1, 5}
    };
    for (int[] thing : things) {
      DviPages x = stops("a 601st " + thing[0], copy(sixHundred).u1(thing), sixHundred.length, 9);
      DUE.is("things", x.count(5), 600);
      Bytes fewer = new Bytes();
      for (int i = 0; i < sixHundred.length - 2; i++) {
        fewer.u1(sixHundred[i]);
      }
      DUE.is("a 600th " + thing[0], open("a 600th", fewer.u1(thing)).count(5), 600);
    }
    open("no rule", copy(sixHundred).u1(132).s4(0, 5).u1(137).s4(5, -1));
    open("others", copy(sixHundred).u1(143, 1, 141, 142, 138, 174, 140));
    stops("on the next page, too", copy(sixHundred).u1(140).page(0, 15).u1(239, 0),
        sixHundred.length + 46, 9);
  }

  private static Bytes copy(byte[] bytes) {
    Bytes copy = new Bytes();
    for (byte b : bytes) {
      copy.u1(b);
    }
    return copy;
  }

  /** "H or V farther than 2 to the 30th from 0" */
  private static void tooFar() {
    int[] moves = {146, 151, 156, 160, 165, 170};
    for (int command : moves) {
      for (int sign : new int[] {-1, 1}) {
        DviPages x = open("just there", onPage().u1(command).s4(sign * FAR).u1(239, 0));
        DUE.is("H or V", x.item(0, command < 157 ? 2 : 3), sign * FAR);
        stops("farther", onPage().u1(command).s4(sign * (FAR + 1)), 60, 9);
        int first = command < 157 ? 143 : 157;
        stops("one more", onPage().u1(command).s4(sign * FAR).u1(first, sign), 65, 9);
        open("one less", onPage().u1(command).s4(sign * FAR).u1(first, -sign));
        if (command != 146 && command != 160) {
          stops("again", onPage().u1(command).s4(sign * FAR).u1(command - 4), 65, 9);
          stops("half and half and one", onPage().u1(command).s4(sign * (FAR / 2 + 1))
              .u1(command - 4), 65, 9);
          open("half and half", onPage().u1(command).s4(sign * (FAR / 2)).u1(command - 4));
        }
      }
      stops("greatest", onPage().u1(command).s4(MAX), 60, 9);
      stops("least", onPage().u1(command).s4(MIN), 60, 9);
    }
    open("a sign just there", withFont().u1(146).s4(FAR - 100).u1(65));
    stops("a sign farther", withFont().u1(146).s4(FAR - 99).u1(65), 82, 9);
    open("a sign that stays", withFont().u1(146).s4(FAR).u1(133, 65));
    open("a sign back just there", onPage().define(70, 78).u1(235, 70, 146).s4(40 - FAR).u1(65));
    stops("a sign farther back", onPage().define(70, 78).u1(235, 70, 146).s4(39 - FAR).u1(65),
        83, 9);
    open("a rule just there", onPage().u1(132).s4(1, FAR));
    stops("a rule farther", onPage().u1(132).s4(1, FAR + 1), 60, 9);
    open("no rule, just there", onPage().u1(132).s4(0, -FAR));
    stops("no rule, farther", onPage().u1(132).s4(0, -FAR - 1), 60, 9);
    open("the pile brings it back", onPage().u1(141, 146).s4(FAR).u1(142, 143, 1));
  }

  /** "Of a command, in this order" */
  private static void firstFaultOfACommand() {
    int[] full = new int[600];
    stops("1 before 2", onPage().u1(139), 60, 1);
    stops("1 before 2, behind the tail", Reader.tailed().u1(242), 44, 1);
    stops("2 before 3", onPage().u1(128), 60, 2);
    stops("2 before 3, font", onPage().u1(236, 1), 60, 2);
    stops("2 before 3, definition", onPage().u1(244).un(2, 256).s4(1, 0, 0).u1(1, 0), 60, 2);
    stops("2 before 7", new Bytes().head(1000).u1(139).u1(new int[43]), 15, 2);
    stops("2 before 8", new Bytes().u1(247).u1(new int[13]), 0, 2);
    stops("2 before 9, special", withFont().u1(full).u1(239, 1), 677, 2);
    stops("2 before 9, rule", withFont().u1(full).u1(132).s4(1).u1(0, 0, 0), 677, 2);
    stops("3 before 4", onPage().u1(131).s4(-1), 60, 3);
    stops("3 before 9", withFont().u1(full).u1(140).page(0, 15).u1(1), 723, 3);
    stops("4 before 9", withFont().u1(full).u1(129).un(2, 256), 677, 4);
    stops("7 before 8, tail", new Bytes().head(1000).tail(0, 999, 1, 1, 1, 1), 15, 7);
    stops("7 before 8, end", end(0, 14, 3, 6), 44, 7);
    stops("7 before 10", end(0, 14, 2, 5), 44, 7);
    stops("8 before 10", end(0, 15, 3, 5), 44, 8);
    stops("8 before 10, no filler", end(0, 15, 3, 0), 44, 8);
  }

  /** "the first FAULT ends it (all that came before stays)" */
  private static void whatCameBeforeStays() {
    Bytes file = new Bytes().head(2000).page(7, -1).define(3, 77).u1(174, 65, 65, 140)
        .page(8, 15).u1(157, 9, 239, 0);
    int at = file.size();
    DviPages x = stops("stays", file.u1(142, 239, 0, 140), at, 5);
    DUE.is("pages", x.count(4), 2);
    DUE.is("items", x.count(5), 3);
    DUE.is("first page", x.counted(0, 0), 7);
    DUE.is("second page", x.counted(1, 0), 8);
    itemIs(x, 0, 0, 0, 0, 0, 3, 65, 0, 0);
    itemIs(x, 1, 0, 0, 100, 0, 3, 65, 200, 0);
    itemIs(x, 2, 1, 2, 0, 9, 0, at, 0, 18);
    itemIs(x, 3, NONE, NONE, NONE);
  }
}
