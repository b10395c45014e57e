import java.util.Arrays;
import java.util.function.Consumer;

/** The bounds that promises 16 to 23 name, a sentence of the document for each test. */
public final class BoundsOfReadingTest {
  private static final long NONE = -1000000000000L;
  private static final int MIN = Integer.MIN_VALUE;
  private static final int MAX = Integer.MAX_VALUE;
  private static final int FAR = Made.FAR;
  private static final Due DUE = new Due();
  private static final Twins TWINS = new Twins(DUE);
  private static final Reader READER = new Reader(DUE);

  public static void main(String[] args) {
    bytesOfALoad();
    lowestBytes();
    moreThan8000();
    loopOfNothing();
    loopOfAFileAsItIs();
    loopOfTheLongestFile();
    dropOfNothing();
    dropLeavesWhatWasRead();
    readOfNoBytes();
    numberOfTheByte();
    howManyPages();
    whatWasReadIsGone();
    faultOfTheLatestRead();
    itemsThereAre();
    whatOfAnItem();
    nextLowerInt();
    countsOfAPage();
    pagesThatWereRead();
    countOfOthers();
    countsThemselves();
    DUE.end();
  }

  private static void isToBeRead(DviPages x, int bytes) {
    DUE.is("to be read", x.count(3), bytes);
  }

  /** "-2 n not 1 .. 8" */
  private static void bytesOfALoad() {
    for (int n : new int[] {MIN, -1, 0, 9, 16, MAX}) {
      TWINS.refused("load of " + n, Made::nothing, x -> x.load(247, n), -2);
      TWINS.refused("load of " + n + " behind others", Made::finished, x -> x.load(1, n), -2);
      TWINS.refused("-2 before -4", x -> Made.loaded(x, 8000), x -> x.load(1, n), -2);
    }
    for (int n = 1; n <= 8; n++) {
      int bytes = n;
      DviPages x = TWINS.taken("load of " + n, Made::nothing, y -> y.load(-1, bytes), n);
      isToBeRead(x, n);
      DUE.is("again", x.load(-1, n), 2 * n);
    }
  }

  /** "The lowest n bytes of a number, the highest of them first" */
  private static void lowestBytes() {
    for (int n = 1; n <= 7; n++) {
      DviPages x = Reader.made();
      Bytes file = Reader.onPage().u1(143, -1, 157, 1, 138, 138, 138, 138);
      byte[] bytes = file.toArray();
      for (int i = 0; i < bytes.length; i += n) {
        long number = 0x5a;
        int left = Math.min(n, bytes.length - i);
        for (int k = 0; k < left; k++) {
          number = number << 8 | bytes[i + k] & 255;
        }
        x.load(number, left);
      }
      DUE.is("read by " + n, x.read(), -1 - bytes.length);
      DUE.is("fault", x.fault(), 2);
      DUE.is("page", x.counted(0, 0), 1);
    }
  }

  /** "-4 more than 8000" */
  private static void moreThan8000() {
    for (int n = 1; n <= 8; n++) {
      int bytes = n;
      DviPages x = TWINS.taken("just 8000", y -> Made.loaded(y, 8000 - bytes),
          y -> y.load(-1, bytes), 8000);
      isToBeRead(x, 8000);
      TWINS.refused("8001 by " + n, y -> Made.loaded(y, 8001 - bytes), y -> y.load(-1, bytes), -4);
      TWINS.refused("full", y -> Made.loaded(y, 8000), y -> y.load(-1, bytes), -4);
    }
    DviPages x = new DviPages();
    Made.loaded(x, 8000);
    DUE.is("full", x.load(1, 1), -4);
    DUE.is("drop", x.drop(), 8000);
    DUE.is("room again", x.load(1, 8), 8);
    readOf8000();
  }

  /** All 8000 bytes are read: the last command ends where they do. */
  private static void readOf8000() {
    DviPages x = Reader.made();
    Bytes file = Reader.onPage();
    while (file.size() < 7998) {
      file.u1(138);
    }
    DUE.is("the last byte is 239's number", file.u1(239, 0).readBy(x), -8001);
    DUE.is("fault", x.fault(), 2);
    DUE.is("special", x.item(0, 5), 8000);
    DUE.is("the last byte is 239", file.size(), 8000);
    Bytes other = Reader.onPage();
    while (other.size() < 7999) {
      other.u1(138);
    }
    DUE.is("the last byte is 239", other.u1(239).readBy(x), -8000);
    DUE.is("fault", x.fault(), 2);
  }

  /** "(nothing, if none is begun)" */
  private static void loopOfNothing() {
    DviPages x = TWINS.taken("none is begun", Made::fonts, DviPages::loop, 0);
    isToBeRead(x, 0);
    x = TWINS.taken("what was loaded is gone", y -> Made.loaded(y, 8000), DviPages::loop, 0);
    isToBeRead(x, 0);
    DUE.is("read", x.read(), -1);
    DUE.is("fault", x.fault(), 2);
  }

  /** "What is to be read is the file as it is, finished or not" */
  private static void loopOfAFileAsItIs() {
    DviPages x = TWINS.taken("a page is begun", Made::page, DviPages::loop, 60);
    x.move(false, 5);
    isToBeRead(x, 60);
    DUE.is("read", x.read(), -61);
    DUE.is("fault", x.fault(), 2);
    DUE.is("as it is now", x.loop(), 62);
    DUE.is("more behind it", x.load(138, 1), 63);
    DUE.is("the file has no more", x.count(1), 62);
    DUE.is("read", x.read(), -64);
    x.end();
    DUE.is("not finished", x.loop(), 63);
    DUE.is("read", x.read(), -64);
    int size = x.finish();
    DUE.is("finished", x.loop(), size);
    DUE.is("read", x.read(), 1);
    x.begin(0);
    DUE.is("to be read still", x.read(), 1);
    DUE.is("the next file", x.loop(), 60);
    DUE.is("read", x.read(), -61);
  }

  /** The longest file that there is fits, with all that it has behind its 6000 bytes. */
  private static void loopOfTheLongestFile() {
    DviPages x = new DviPages();
    Made.fortyFonts(x);
    x.begin(0);
    for (int i = 7; i <= 40; i++) {
      x.use(100 + i);
    }
    for (int number : new int[] {3, 0, 70, 255, 63, 64}) {
      x.use(number);
    }
    while (x.count(1) + 30 <= 6000) {
      x.special(-1, 8);
    }
    while (x.count(1) < 5999) {
      x.push();
      x.pop();
      if (x.count(1) == 5998) {
        x.set(1, false);
      }
    }
    x.end();
    int size = x.finish();
    DUE.is("size", size, 6680);
    DUE.is("loop", x.loop(), size);
    DUE.is("read", x.read(), 1);
    DUE.is("fault", x.fault(), 0);
    DUE.is("load behind it", x.load(-1, 8), size + 8);
  }

  /** "No bytes to be read: how many there were." */
  private static void dropOfNothing() {
    TWINS.taken("none", Made::nothing, DviPages::drop, 0);
    TWINS.taken("one", y -> Made.loaded(y, 1), DviPages::drop, 1);
    DviPages x = TWINS.taken("8000", y -> Made.loaded(y, 8000), DviPages::drop, 8000);
    DUE.is("none any more", x.drop(), 0);
    isToBeRead(x, 0);
    DUE.is("read", x.read(), -1);
    DUE.is("fault", x.fault(), 2);
  }

  /** Only the next read() makes what was read go. */
  private static void dropLeavesWhatWasRead() {
    DviPages x = new DviPages();
    Made.finished(x);
    String items = x.count(4) + " " + x.count(5) + " " + x.item(0, 6) + " " + x.counted(0, 0);
    x.drop();
    DUE.is("items", x.count(4) + " " + x.count(5) + " " + x.item(0, 6) + " " + x.counted(0, 0),
        items);
    DUE.is("fault", x.fault(), 0);
  }

  /** "(of no bytes: -1, fault 2)" */
  private static void readOfNoBytes() {
    READER.stops("no bytes", new Bytes(), 0, 2);
    READER.stops("one byte, 247", new Bytes().u1(247), 0, 2);
    READER.stops("one byte, another", new Bytes().u1(246), 0, 1);
    READER.stops("one byte, 0", new Bytes().u1(0), 0, 1);
    READER.stops("one byte, 255", new Bytes().u1(255), 0, 1);
  }

  /** "-1 less the number of the byte at which that command begins" */
  private static void numberOfTheByte() {
    READER.stops("the first", new Bytes().u1(247, 3).u1(new int[13]), 0, 8);
    READER.stops("the second command", new Bytes().head(1000).u1(250), 15, 1);
    for (int n = 0; n < 5; n++) {
      int[] nothing = new int[n];
      Arrays.fill(nothing, 138);
      READER.stops("behind " + n, new Bytes().head(1000).u1(nothing).u1(140), 15 + n, 1);
      READER.stops("at its begin, not its end", Reader.onPage().u1(nothing).u1(146).s4(FAR + 1),
          60 + n, 9);
      READER.stops("at the length", Reader.onPage().u1(nothing), 60 + n, 2);
    }
  }

  private static Bytes pages(int n) {
    Bytes file = new Bytes().head(1000);
    for (int i = 0; i < n; i++) {
      file.page(100 + i, i == 0 ? -1 : 15 + 46 * (i - 1)).u1(140);
    }
    return file;
  }

  private static Bytes wholeFile(int n) {
    int tail = 15 + 46 * n;
    return pages(n).tail(n == 0 ? -1 : tail - 46, 1000, 0, 0, 0, n).last(tail);
  }

  /** "READ: how many pages" */
  private static void howManyPages() {
    for (int n : new int[] {0, 1, 2, 19, 20}) {
      DviPages x = READER.whole(n + " pages", wholeFile(n), n);
      DUE.is("pages", x.count(4), n);
      DUE.is("last page", x.counted(n - 1, 0), n == 0 ? NONE : 99 + n);
      DUE.is("behind the last page", x.counted(n, 0), NONE);
    }
    READER.stops("21 pages", wholeFile(21), 15 + 46 * 20, 9);
  }

  /** "What was read before is gone as this begins." */
  private static void whatWasReadIsGone() {
    Consumer<DviPages> before = x -> {
      Made.finished(x);
      x.drop();
    };
    DviPages x = new DviPages();
    before.accept(x);
    DUE.holds("items before", x.count(5) > 0 && x.count(4) > 0);
    DUE.is("read of nothing", x.read(), -1);
    DUE.is("items", x.count(5), 0);
    DUE.is("pages", x.count(4), 0);
    DUE.is("item", x.item(0, 0), NONE);
    DUE.is("count", x.counted(0, 0), NONE);
    DUE.is("fault", x.fault(), 2);
    DUE.is("fewer pages", wholeFile(20).readBy(x), 20);
    DUE.is("fewer pages", wholeFile(1).readBy(x), 1);
    DUE.is("page 1", x.counted(1, 0), NONE);
    // Neither the font at hand, nor those told, nor the place, the pile, the greatest are left.
    DviPages y = Reader.made();
    DUE.is("much", Reader.withFont().u1(65, 148, 9, 162, 9, 141, 141).readBy(y), -85);
    DUE.is("little", Reader.onPage().u1(147, 161, 239, 0, 142).readBy(y), -65);
    DUE.is("pile is empty", y.fault(), 5);
    DUE.is("H", y.item(0, 2), 0);
    DUE.is("V", y.item(0, 3), 0);
    DUE.is("no font told", Reader.onPage().u1(174).readBy(y), -61);
    DUE.is("no font at hand", Reader.onPage().u1(65).readBy(y), -61);
    DUE.is("no greatest", wholeFile(1).readBy(y), 1);
  }

  /** "The fault of the latest read(); 0 for none." */
  private static void faultOfTheLatestRead() {
    DviPages x = Reader.made();
    DUE.is("before any", x.fault(), 0);
    new Bytes().u1(250).readBy(x);
    DUE.is("1", x.fault(), 1);
    DUE.is("asked again", x.fault(), 1);
    wholeFile(0).readBy(x);
    DUE.is("0", x.fault(), 0);
    Reader.onPage().u1(142).readBy(x);
    DUE.is("5", x.fault(), 5);
    x.drop();
    x.load(247, 1);
    x.begin(0);
    x.loop();
    DUE.is("no read since", x.fault(), 5);
    DUE.is("a refusal is no fault", x.load(0, 9), -2);
    DUE.is("still", x.fault(), 5);
    x.read();
    DUE.is("2", x.fault(), 2);
  }

  /** "NONE, -1000000000000, when there is none such": item i */
  private static void itemsThereAre() {
    for (int n : new int[] {0, 1, 599, 600}) {
      DviPages x = READER.open(n + " items", Reader.withFont().u1(new int[n]));
      DUE.is("items", x.count(5), n);
      for (int i : new int[] {MIN, -1, 0, n - 1, n, 599, 600, 601, MAX}) {
        boolean isThere = i >= 0 && i < n;
        DUE.is("page of item " + i + " of " + n, x.item(i, 0), isThere ? 0 : NONE);
        DUE.is("font of item " + i + " of " + n, x.item(i, 4), isThere ? 3 : NONE);
        DUE.is("H of item " + i + " of " + n, x.item(i, 6), isThere ? 0 : NONE);
        DUE.is("V of item " + i + " of " + n, x.item(i, 7), isThere ? 0 : NONE);
      }
    }
    DviPages x = READER.stops("600 stay", Reader.withFont().u1(new int[601]), 677, 9);
    DUE.is("item 599", x.item(599, 4), 3);
    DUE.is("item 600", x.item(600, 4), NONE);
  }

  /** "its page (what 0, ...), ... V (7)": the others are none */
  private static void whatOfAnItem() {
    DviPages x = READER.open("two items", Reader.withFont().u1(0, 0));
    for (int i = 0; i < 2; i++) {
      for (int what : new int[] {MIN, -6, -1, 8, 9, MAX}) {
        DUE.is("what " + what + " of item " + i, x.item(i, what), NONE);
      }
      for (int what = 0; what < 8; what++) {
        DUE.holds("what " + what + " of item " + i, x.item(i, what) != NONE);
      }
    }
  }

  /** "H (6) and V (7) times the magnification by 1000, cut down to the next lower int" */
  private static void nextLowerInt() {
    int[] magnifications = {1, 2, 999, 1000, 1001, 1500, 32767, 32768};
    int[] places = {-FAR, -FAR + 1, -1001, -1000, -999, -2, -1, 0, 1, 2, 999, 1000, 1001, FAR};
    for (int m : magnifications) {
      for (int place : places) {
        DviPages x = Reader.made();
        new Bytes().head(m).page(0, -1).u1(146).s4(place).u1(160).s4(-place).u1(239, 0).readBy(x);
        DUE.is("H", x.item(0, 2), place);
        DUE.is("V", x.item(0, 3), -place);
        DUE.is(place + " times " + m, x.item(0, 6), lower((long) place * m));
        DUE.is(-place + " times " + m, x.item(0, 7), lower(-(long) place * m));
      }
    }
    DviPages x = Reader.made();
    new Bytes().head(500).page(0, -1).u1(143, -1, 157, 1, 239, 0).readBy(x);
    DUE.is("-0.5", x.item(0, 6), -1);
    DUE.is("0.5", x.item(0, 7), 0);
    new Bytes().head(32768).page(0, -1).u1(146).s4(FAR).u1(160).s4(-FAR).u1(239, 0).readBy(x);
    DUE.is("greatest", x.item(0, 6), 35184372088L);
    DUE.is("least", x.item(0, 7), -35184372089L);
  }

  private static long lower(long thousandths) {
    long cut = thousandths / 1000;
    return thousandths % 1000 < 0 ? cut - 1 : cut;
  }

  /** "Count k (0 .. 9) ...; the same for none" */
  private static void countsOfAPage() {
    int[] counts = {MIN, MAX, 0, -1, 1, 255, 256, -256, 65536, MIN + 1};
    Bytes file = new Bytes().head(1000).u1(139);
    for (int count : counts) {
      file.s4(count);
    }
    DviPages x = READER.open("a page", file.s4(-1).u1(140));
    for (int k = 0; k < 10; k++) {
      DUE.is("count " + k, x.counted(0, k), counts[k]);
    }
    for (int k : new int[] {MIN, -1, 10, 11, MAX}) {
      DUE.is("count " + k, x.counted(0, k), NONE);
    }
  }

  /** "of a page that was read; the same for none" */
  private static void pagesThatWereRead() {
    for (int n : new int[] {0, 1, 2, 19, 20}) {
      DviPages x = READER.open(n + " pages", pages(n));
      for (int page : new int[] {MIN, -1, 0, n - 1, n, 19, 20, 21, MAX}) {
        boolean isThere = page >= 0 && page < n;
        DUE.is("page " + page + " of " + n, x.counted(page, 0), isThere ? 100 + page : NONE);
        DUE.is("page " + page + " of " + n, x.counted(page, 9), isThere ? 0 : NONE);
        DUE.is("page " + page + " of " + n, x.counted(page, 10), NONE);
        DUE.is("page " + page + " of " + n, x.counted(page, -1), NONE);
      }
    }
    DviPages x = READER.stops("not begun", new Bytes().head(1000).page(5, 0), 15, 7);
    DUE.is("not begun", x.counted(0, 0), NONE);
    x = READER.stops("not all there", new Bytes().head(1000).u1(139).u1(new int[43]), 15, 2);
    DUE.is("not all there", x.counted(0, 0), NONE);
  }

  /** "-2 for others" */
  private static void countOfOthers() {
    for (int what : new int[] {MIN, -2, -1, 7, 8, 256, MAX}) {
      TWINS.refused("count " + what, Made::nothing, x -> x.count(what), -2);
      TWINS.refused("count " + what, Made::busyPage, x -> x.count(what), -2);
      TWINS.refused("count " + what, Made::finished, x -> x.count(what), -2);
    }
  }

  private static void countsAre(String what, DviPages x, int... want) {
    for (int i = 0; i < want.length; i++) {
      DUE.is(what + ", count " + i, x.count(i), want[i]);
    }
  }

  /** "Fonts (what 0), ... on the pile of the page that is written (6) there are" */
  private static void countsThemselves() {
    countsAre("new", new DviPages(), 0, 0, 0, 0, 0, 0, 0);
    DviPages x = new DviPages();
    Made.pile(x, 100);
    int bytes = x.count(1);
    countsAre("full pile", x, 6, bytes, 1, 0, 0, 0, 100);
    DUE.is("loop", x.loop(), bytes);
    x.read();
    countsAre("one page is begun to be read", x, 6, bytes, 1, bytes, 1, 0, 100);
    while (x.count(6) > 0) {
      x.pop();
    }
    x.end();
    countsAre("the page has ended", x, 6, bytes + 101, 1, bytes, 1, 0, 0);
    x = new DviPages();
    Made.fortyFonts(x);
    countsAre("forty fonts", x, 40, 0, 0, 0, 0, 0, 0);
    x = new DviPages();
    Made.twentiethPage(x);
    DUE.is("one that is begun, too", x.count(2), 20);
    x.end();
    x.loop();
    x.read();
    DUE.is("pages that were read", x.count(4), 20);
    x.finish();
    DUE.is("its pages", x.count(2), 20);
    x.begin(0);
    DUE.is("of the next file", x.count(2), 1);
    DUE.is("bytes of the next file", x.count(1), 60);
  }
}
