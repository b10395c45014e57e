import java.util.function.Consumer;
import java.util.function.ToLongFunction;

/** The bounds that promises 5 to 15 and 24 name, a sentence of the document for each test. */
public final class BoundsOfPagesTest {
  private static final int MIN = Integer.MIN_VALUE;
  private static final int MAX = Integer.MAX_VALUE;
  private static final int FAR = Made.FAR;
  private static final Due DUE = new Due();
  private static final Twins TWINS = new Twins(DUE);

  public static void main(String[] args) {
    beginPages();
    usePages();
    setPages();
    rulePages();
    movePages();
    pilePages();
    specialPages();
    endPages();
    finishPages();
    octetPages();
    checkPages();
    DUE.end();
  }

  private static void beginPages() {
    countIsAnyInt();
    numberFrom0();
    pageIsBegun();
    thereAreTwenty();
    roomForAPage();
    newFileHasRoom();
  }

  private static void usePages() {
    noSuchFont();
    noPageForAFont();
    fontsBy171Or235();
    atHandAlready();
    roomForAFont();
    definedFirstInAFile();
  }

  private static void setPages() {
    signItself();
    signsBelow128();
    noFontAtHand();
    signTooFar();
    roomForASign();
  }

  private static void rulePages() {
    ruleItself();
    noPageForARule();
    ruleTooFar();
    roomForARule();
    ruleOf0();
  }

  private static void movePages() {
    moveItself();
    noPageForAMove();
    moveTooFar();
    roomForAMove();
    moveOf0();
    asFewBytesAsMayBe();
    remembered();
    rememberedOnAPile();
  }

  private static void pilePages() {
    hundredOnThePile();
    noPageForAPile();
    noneOnThePile();
    roomForAPile();
  }

  private static void specialPages() {
    bytesOfASpecial();
    noPageForASpecial();
    roomForASpecial();
    lowestBytes();
  }

  private static void endPages() {
    noPageToEnd();
    someOnThePile();
    roomForAnEnd();
  }

  private static void finishPages() {
    nothingToFinish();
    alwaysHasRoom();
    fourFillersAtLeast();
    greatestAre0AtLeast();
    pileAtMost();
    fontsAtTheEnd();
  }

  private static void octetPages() {
    octetsThereAreNot();
    octetsOfAllValues();
  }

  /** What a call writes behind what is there. */
  private static String added(Consumer<DviPages> made, ToLongFunction<DviPages> call) {
    DviPages x = new DviPages();
    made.accept(x);
    int before = x.count(1);
    DUE.holds("taken", call.applyAsLong(x) >= 0);
    return Bytes.hex(Bytes.written(x)).substring(2 * before);
  }

  /** "with its first count, the others 0" */
  private static void countIsAnyInt() {
    for (int count : new int[] {MIN, -1, 0, 1, 255, 256, MAX}) {
      DviPages x = TWINS.taken("begin " + count, Made::fonts, y -> y.begin(count), 0);
      DUE.is("written", Bytes.hex(Bytes.written(x)),
          new Bytes().head(1000).page(count, -1).hex());
      x.end();
      x.finish();
      x.loop();
      x.read();
      DUE.is("read", x.counted(0, 0), count);
      for (int k = 1; k < 10; k++) {
        DUE.is("count " + k, x.counted(0, k), 0);
      }
    }
  }

  /** "its number, from 0"; "a new file, if none is begun, or the latest one is finished" */
  private static void numberFrom0() {
    TWINS.taken("none is begun", Made::fonts, x -> x.begin(0), 0);
    TWINS.taken("one is begun", Made::betweenPages, x -> x.begin(0), 1);
    DviPages x = TWINS.taken("the latest one is finished", Made::finished, y -> y.begin(0), 0);
    DUE.is("a new file", x.count(1), 60);
    DUE.is("with one page", x.count(2), 1);
  }

  /** "-3 a page is begun" */
  private static void pageIsBegun() {
    TWINS.refused("on a page", Made::page, x -> x.begin(1), -3);
    TWINS.refused("on a busy page", Made::busyPage, x -> x.begin(1), -3);
    TWINS.refused("-3 before -4, pages", Made::twentiethPage, x -> x.begin(1), -3);
    TWINS.refused("-3 before -4, room", x -> Made.filled(x, 44), x -> x.begin(1), -3);
  }

  /** "-4 there are 20" */
  private static void thereAreTwenty() {
    DviPages x = new DviPages();
    for (int i = 0; i < 20; i++) {
      DUE.is("begin " + i, x.begin(i), i);
      DUE.is("end " + i, x.end(), i + 1);
    }
    DUE.is("a 21st", x.begin(20), -4);
    DUE.is("pages", x.count(2), 20);
    TWINS.refused("a 21st", Made::twentyPages, y -> y.begin(5), -4);
    x.finish();
    DUE.is("of the next file", x.begin(20), 0);
    DUE.is("pages", x.count(2), 1);
  }

  /** "or no room. (... more than 6000 bytes ...)" */
  private static void roomForAPage() {
    DviPages x = TWINS.taken("45 bytes left", y -> Made.filledBetweenPages(y, 45),
        y -> y.begin(1), 1);
    DUE.is("just 6000", x.count(1), 6000);
    for (int left : new int[] {0, 1, 44}) {
      TWINS.refused(left + " bytes left", y -> Made.filledBetweenPages(y, left),
          y -> y.begin(1), -4);
    }
  }

  /** A new file leaves the room of the one before. */
  private static void newFileHasRoom() {
    DviPages x = new DviPages();
    Made.filledBetweenPages(x, 0);
    DUE.holds("longer than 6000 bytes", x.finish() > 6000);
    DUE.is("begin", x.begin(7), 0);
    DUE.is("head and page", Bytes.hex(Bytes.written(x)),
        new Bytes().head(1000).page(7, -1).hex());
  }

  /** "-1 no such font" */
  private static void noSuchFont() {
    for (int number : new int[] {MIN, -1, 1, 254, 256, 259, MAX}) {
      TWINS.refused("use " + number, Made::busyPage, x -> x.use(number), -1);
      TWINS.refused("-1 before -3", Made::fonts, x -> x.use(number), -1);
      TWINS.refused("-1 before -4", x -> Made.filled(x, 0), x -> x.use(number), -1);
    }
  }

  /** "-3 no page is begun" */
  private static void noPageForAFont() {
    TWINS.refused("no file", Made::fonts, x -> x.use(3), -3);
    TWINS.refused("between pages", Made::betweenPages, x -> x.use(3), -3);
    TWINS.refused("finished", Made::finished, x -> x.use(3), -3);
    TWINS.refused("-3 before -4", x -> Made.filledBetweenPages(x, 0), x -> x.use(70), -3);
  }

  /** "fonts by 171 .. or 235" */
  private static void fontsBy171Or235() {
    DUE.is("font 0", added(Made::page, x -> x.use(0)), new Bytes().define(0, -5).u1(171).hex());
    DUE.is("font 63", added(Made::page, x -> x.use(63)),
        new Bytes().define(63, 80).u1(234).hex());
    DUE.is("font 64", added(Made::page, x -> x.use(64)),
        new Bytes().define(64, 81).u1(235, 64).hex());
    DUE.is("font 255", added(Made::page, x -> x.use(255)),
        new Bytes().define(255, 79).u1(235, 255).hex());
  }

  /** "(nothing is written, if it is already)" */
  private static void atHandAlready() {
    DUE.is("at hand", added(Made::busyPage, x -> x.use(3)), "");
    DUE.is("at hand, and full", added(x -> Made.filled(x, 0), x -> x.use(3)), "");
    DUE.is("not at hand any more", added(x -> {
      Made.busyPage(x);
      x.use(70);
    }, x -> x.use(3)), "ae");
    DUE.is("not on the next page", added(x -> {
      Made.betweenPages(x);
      x.begin(0);
    }, x -> x.use(3)), "ae");
  }

  /** "-4 no room"; "what a call writes with all that belongs to it is counted" */
  private static void roomForAFont() {
    int[][] bytesOfFonts = {{0, 17}, {63, 17}, {255, 18}, {70, 2}, {64, 2}};
    for (int[] pair : bytesOfFonts) {
      int bytes = pair[1];
      DviPages x = TWINS.taken("room for font " + pair[0], y -> Made.filled(y, bytes),
          y -> y.use(pair[0]), 1);
      DUE.is("just 6000", x.count(1), 6000);
      TWINS.refused("a byte less for font " + pair[0], y -> Made.filled(y, bytes - 1),
          y -> y.use(pair[0]), -4);
    }
    TWINS.refused("just the definition's room", x -> Made.filled(x, 16), x -> x.use(0), -4);
    TWINS.refused("just the command's room", x -> Made.filled(x, 1), x -> x.use(0), -4);
  }

  /** "a font's definition ... just before it is at hand first in a file" */
  private static void definedFirstInAFile() {
    String defined = new Bytes().define(3, 77).u1(174).hex();
    DUE.is("first", added(Made::page, x -> x.use(3)), defined);
    DUE.is("on the second page", added(x -> {
      Made.betweenPages(x);
      x.begin(0);
    }, x -> x.use(3)), "ae");
    DUE.is("in the second file", added(x -> {
      Made.finished(x);
      x.begin(0);
    }, x -> x.use(3)), defined);
    DUE.is("after a refusal", added(x -> {
      Made.fonts(x);
      x.use(3);
      x.begin(0);
    }, x -> x.use(3)), defined);
  }

  /** "-2 sign not 0 .. 255" */
  private static void signItself() {
    for (int sign : new int[] {MIN, -256, -1, 256, 321, MAX}) {
      for (boolean stays : new boolean[] {false, true}) {
        TWINS.refused("set " + sign, Made::busyPage, x -> x.set(sign, stays), -2);
        TWINS.refused("-2 before -3, no font", Made::page, x -> x.set(sign, stays), -2);
        TWINS.refused("-2 before -3, no page", Made::fonts, x -> x.set(sign, stays), -2);
        TWINS.refused("-2 before -4", x -> Made.filled(x, 0), x -> x.set(sign, stays), -2);
      }
    }
  }

  /** "signs below 128 by themselves, others by 128, those that stay by 133" */
  private static void signsBelow128() {
    DUE.is("0", added(Made::busyPage, x -> x.set(0, false)), "00");
    DUE.is("127", added(Made::busyPage, x -> x.set(127, false)), "7f");
    DUE.is("128", added(Made::busyPage, x -> x.set(128, false)), "8080");
    DUE.is("255", added(Made::busyPage, x -> x.set(255, false)), "80ff");
    DUE.is("0 stays", added(Made::busyPage, x -> x.set(0, true)), "8500");
    DUE.is("127 stays", added(Made::busyPage, x -> x.set(127, true)), "857f");
    DUE.is("128 stays", added(Made::busyPage, x -> x.set(128, true)), "8580");
    DUE.is("255 stays", added(Made::busyPage, x -> x.set(255, true)), "85ff");
  }

  /** "-3 no page, or no font at hand" */
  private static void noFontAtHand() {
    for (boolean stays : new boolean[] {false, true}) {
      TWINS.refused("no file", Made::fonts, x -> x.set(65, stays), -3);
      TWINS.refused("no font", Made::page, x -> x.set(65, stays), -3);
      TWINS.refused("between pages", Made::betweenPages, x -> x.set(65, stays), -3);
      TWINS.refused("finished", Made::finished, x -> x.set(65, stays), -3);
      TWINS.refused("no font on the next page", x -> {
        Made.betweenPages(x);
        x.begin(0);
      }, x -> x.set(65, stays), -3);
      TWINS.refused("-3 before -4", x -> Made.filledBetweenPages(x, 0), x -> x.set(65, stays), -3);
    }
  }

  /** "-2 H would be farther than 2 to the 30th from 0; -4 no room" */
  private static void signTooFar() {
    TWINS.taken("just there", x -> Made.at(x, FAR - 1000000, 0), x -> x.set(65, false), 1);
    TWINS.refused("one farther", x -> Made.at(x, FAR - 999999, 0), x -> x.set(65, false), -2);
    TWINS.taken("just there, back", x -> Made.at(x, 1000000 - FAR, 0), x -> x.set(66, false), 1);
    TWINS.refused("one farther back", x -> Made.at(x, 999999 - FAR, 0), x -> x.set(66, false), -2);
    TWINS.taken("it stays", x -> Made.at(x, FAR, 0), x -> x.set(65, true), 1);
    TWINS.taken("it has no width", x -> Made.at(x, FAR, 0), x -> x.set(0, false), 1);
    TWINS.taken("it goes back", x -> Made.at(x, FAR, 0), x -> x.set(66, false), 1);
    TWINS.taken("V does not matter", x -> Made.at(x, 0, FAR), x -> x.set(65, false), 1);
    TWINS.refused("-2 before -4", Made::farAndFull, x -> x.set(65, false), -2);
    TWINS.refused("-4 if it stays", Made::farAndFull, x -> x.set(65, true), -4);
  }

  /** "-4 no room" */
  private static void roomForASign() {
    int[][] bytesOfSigns = {{0, 1}, {127, 1}, {128, 2}, {255, 2}};
    for (int[] pair : bytesOfSigns) {
      roomFor("sign " + pair[0], pair[1], x -> x.set(pair[0], false));
      roomFor("sign " + pair[0] + " stays", 2, x -> x.set(pair[0], true));
    }
  }

  /** A call on a page that has just room for it, and on one with a byte less. */
  private static void roomFor(String what, int bytes, ToLongFunction<DviPages> call) {
    DviPages x = TWINS.taken("room for " + what, y -> Made.filled(y, bytes), call, 1);
    DUE.is("just 6000", x.count(1), 6000);
    TWINS.refused("a byte less for " + what, y -> Made.filled(y, bytes - 1), call, -4);
  }

  /** "-2 a height or width not -1000000 .. 1000000" */
  private static void ruleItself() {
    for (int length : new int[] {MIN, -1000001, 1000001, MAX}) {
      for (boolean stays : new boolean[] {false, true}) {
        TWINS.refused("height " + length, Made::busyPage, x -> x.rule(length, 1, stays), -2);
        TWINS.refused("width " + length, Made::busyPage, x -> x.rule(1, length, stays), -2);
        TWINS.refused("-2 before -3", Made::betweenPages, x -> x.rule(length, 1, stays), -2);
        TWINS.refused("-2 before -4", x -> Made.filled(x, 0), x -> x.rule(1, length, stays), -2);
      }
    }
    for (int length : new int[] {-1000000, 1000000}) {
      DUE.is("height " + length, added(Made::busyPage, x -> x.rule(length, 1, false)),
          new Bytes().u1(132).s4(length, 1).hex());
      DUE.is("width " + length, added(Made::busyPage, x -> x.rule(-1, length, true)),
          new Bytes().u1(137).s4(-1, length).hex());
    }
  }

  /** "-3 no page" */
  private static void noPageForARule() {
    TWINS.refused("no file", Made::fonts, x -> x.rule(1, 1, false), -3);
    TWINS.refused("between pages", Made::betweenPages, x -> x.rule(1, 1, true), -3);
    TWINS.refused("finished", Made::finished, x -> x.rule(0, 0, false), -3);
    TWINS.refused("-3 before -4", x -> Made.filledBetweenPages(x, 0), x -> x.rule(1, 1, false), -3);
    TWINS.taken("no font is wanted", Made::page, x -> x.rule(1, 1, false), 1);
  }

  /** "-2 and -4 likewise" */
  private static void ruleTooFar() {
    for (int width : new int[] {1, 5, 1000000}) {
      for (int height : new int[] {-3, 0, 3}) {
        TWINS.taken("just there", x -> Made.at(x, FAR - width, 0),
            x -> x.rule(height, width, false), 1);
        TWINS.refused("one farther", x -> Made.at(x, FAR - width + 1, 0),
            x -> x.rule(height, width, false), -2);
        TWINS.taken("just there, back", x -> Made.at(x, width - FAR, 0),
            x -> x.rule(height, -width, false), 1);
        TWINS.refused("one farther back", x -> Made.at(x, width - FAR - 1, 0),
            x -> x.rule(height, -width, false), -2);
      }
    }
    TWINS.taken("it stays", x -> Made.at(x, FAR, 0), x -> x.rule(1, 1000000, true), 1);
    TWINS.taken("V does not matter", x -> Made.at(x, 0, FAR), x -> x.rule(1000000, 1, false), 1);
    TWINS.refused("-2 before -4", Made::farAndFull, x -> x.rule(1, 1, false), -2);
    TWINS.refused("-4 if it stays", Made::farAndFull, x -> x.rule(1, 1, true), -4);
  }

  /** "-2 and -4 likewise" */
  private static void roomForARule() {
    roomFor("rule", 9, x -> x.rule(1, 2, false));
    roomFor("rule that stays", 9, x -> x.rule(1, 2, true));
    roomFor("rule of 0", 9, x -> x.rule(0, 0, false));
  }

  /** A rule that does not stand is written all the same: only moves of 0 are not. */
  private static void ruleOf0() {
    DUE.is("0, 0", added(Made::busyPage, x -> x.rule(0, 0, false)),
        new Bytes().u1(132).s4(0, 0).hex());
    DUE.is("0, 0 stays", added(Made::busyPage, x -> x.rule(0, 0, true)),
        new Bytes().u1(137).s4(0, 0).hex());
  }

  /** "-2 not -1000000 .. 1000000" */
  private static void moveItself() {
    for (boolean upright : new boolean[] {false, true}) {
      for (int by : new int[] {MIN, -1000001, 1000001, MAX}) {
        TWINS.refused("move " + by, Made::busyPage, x -> x.move(upright, by), -2);
        TWINS.refused("-2 before -3", Made::fonts, x -> x.move(upright, by), -2);
        TWINS.refused("-2 before -4", x -> Made.filled(x, 0), x -> x.move(upright, by), -2);
      }
      for (int by : new int[] {-1000000, 1000000}) {
        DUE.is("move " + by, added(Made::page, x -> x.move(upright, by)),
            new Bytes().u1(upright ? 164 : 150).un(3, by).hex());
      }
    }
  }

  /** "-3 no page" */
  private static void noPageForAMove() {
    for (boolean upright : new boolean[] {false, true}) {
      for (int by : new int[] {0, 5}) {
        TWINS.refused("no file", Made::fonts, x -> x.move(upright, by), -3);
        TWINS.refused("between pages", Made::betweenPages, x -> x.move(upright, by), -3);
        TWINS.refused("finished", Made::finished, x -> x.move(upright, by), -3);
        TWINS.refused("-3 before -4", x -> Made.filledBetweenPages(x, 0),
            x -> x.move(upright, by), -3);
      }
    }
  }

  /** "-2 and -4 likewise": along it is H that may not be too far, up and down it is V. */
  private static void moveTooFar() {
    for (int by : new int[] {1, 7, 1000000}) {
      TWINS.taken("H just there", x -> Made.at(x, FAR - by, 0), x -> x.move(false, by), 1);
      TWINS.refused("H farther", x -> Made.at(x, FAR - by + 1, 0), x -> x.move(false, by), -2);
      TWINS.taken("H just there, back", x -> Made.at(x, by - FAR, 0), x -> x.move(false, -by), 1);
      TWINS.refused("H farther back", x -> Made.at(x, by - FAR - 1, 0),
          x -> x.move(false, -by), -2);
      TWINS.taken("V just there", x -> Made.at(x, 0, FAR - by), x -> x.move(true, by), 1);
      TWINS.refused("V farther", x -> Made.at(x, 0, FAR - by + 1), x -> x.move(true, by), -2);
      TWINS.taken("V just there, back", x -> Made.at(x, 0, by - FAR), x -> x.move(true, -by), 1);
      TWINS.refused("V farther back", x -> Made.at(x, 0, by - FAR - 1), x -> x.move(true, -by), -2);
    }
    TWINS.taken("V is not H", x -> Made.at(x, FAR, 0), x -> x.move(true, 1), 1);
    TWINS.taken("H is not V", x -> Made.at(x, 0, FAR), x -> x.move(false, 1), 1);
    TWINS.taken("of 0", x -> Made.at(x, FAR, FAR), x -> x.move(false, 0), 1);
    TWINS.refused("-2 before -4, H", Made::farAndFull, x -> x.move(false, 1), -2);
    TWINS.refused("-2 before -4, V", Made::farAndFull, x -> x.move(true, -1), -2);
    TWINS.refused("-4", Made::farAndFull, x -> x.move(false, -1), -4);
  }

  /** "-2 and -4 likewise" */
  private static void roomForAMove() {
    int[][] bytesOfMoves = {
      {5, 1}, {-5, 2}, {127, 2}, {128, 3}, {-128, 2}, {-129, 3}, {32767, 3}, {32768, 4},
      {-32768, 3}, {-32769, 4}, {1000000, 4}
    };
    for (int[] pair : bytesOfMoves) {
      roomFor("move " + pair[0], pair[1], x -> x.move(false, pair[0]));
      if (pair[1] > 1) {
        roomFor("move up " + pair[0], pair[1], x -> x.move(true, pair[0]));
      }
    }
  }

  /** "Of 0 nothing is written." */
  private static void moveOf0() {
    for (boolean upright : new boolean[] {false, true}) {
      DUE.is("W and X are 0", added(Made::page, x -> x.move(upright, 0)), "");
      DUE.is("neither is 0", added(Made::busyPage, x -> x.move(upright, 0)), "");
      DUE.is("full", added(x -> Made.filled(x, 0), x -> x.move(upright, 0)), "");
    }
    DviPages x = TWINS.taken("W is still first", Made::page, y -> y.move(false, 0), 1);
    x.move(false, 9);
    DUE.is("W is still first", x.octet(60), 148);
  }

  /** "with as few bytes as may be" */
  private static void asFewBytesAsMayBe() {
    int[][] bytesOfMoves = {
      {1, 1}, {-1, 1}, {127, 1}, {-128, 1}, {128, 2}, {-129, 2}, {255, 2}, {256, 2}, {32767, 2},
      {-32768, 2}, {32768, 3}, {-32769, 3}, {65535, 3}, {1000000, 3}, {-1000000, 3}
    };
    for (int[] pair : bytesOfMoves) {
      int by = pair[0];
      int n = pair[1];
      DUE.is("W " + by, added(Made::page, x -> x.move(false, by)),
          new Bytes().u1(147 + n).un(n, by).hex());
      DUE.is("Y " + by, added(Made::page, x -> x.move(true, by)),
          new Bytes().u1(161 + n).un(n, by).hex());
      Consumer<DviPages> second = x -> {
        Made.page(x);
        x.move(false, 99);
        x.move(true, 99);
      };
      DUE.is("X " + by, added(second, x -> x.move(false, by)),
          new Bytes().u1(152 + n).un(n, by).hex());
      DUE.is("Z " + by, added(second, x -> x.move(true, by)),
          new Bytes().u1(166 + n).un(n, by).hex());
    }
  }

  /** "moves by 147 if it is W, else by 152 if it is X, else ... whichever was made ... longer ago" */
  private static void remembered() {
    for (boolean upright : new boolean[] {false, true}) {
      int w = upright ? 161 : 147;
      DviPages x = new DviPages();
      Made.page(x);
      for (int by : new int[] {1, 2, 1, 3, 2, 1, 1, 3, -3}) {
        x.move(upright, by);
      }
      // W 1, X 2, W again, W 3, X again, X 1 for W is younger, X again, W again, W -3.
      DUE.is("turns", Bytes.hex(Bytes.written(x)).substring(120), new Bytes()
          .u1(w + 1, 1, w + 6, 2, w, w + 1, 3, w + 5, w + 6, 1, w + 5, w, w + 1, -3).hex());
    }
  }

  /** "(on a page W first; those of a pile come back with it)" */
  private static void rememberedOnAPile() {
    DviPages x = new DviPages();
    Made.page(x);
    x.move(false, 1);
    x.end();
    x.begin(0);
    int before = x.count(1);
    x.move(false, 1);
    x.push();
    x.move(false, 2);
    x.push();
    x.move(false, 3);
    x.pop();
    x.move(false, 2);
    x.move(false, 3);
    x.pop();
    x.move(false, 1);
    x.move(false, 2);
    DUE.is("W first, and back", Bytes.hex(Bytes.written(x)).substring(2 * before), new Bytes()
        .u1(148, 1, 141, 153, 2, 141, 148, 3, 142, 152, 148, 3, 142, 147, 153, 2).hex());
  }

  /** "-4 there are 100" */
  private static void hundredOnThePile() {
    TWINS.taken("the hundredth", x -> Made.pile(x, 99), DviPages::push, 100);
    TWINS.refused("one more", x -> Made.pile(x, 100), DviPages::push, -4);
    TWINS.taken("back to 99", x -> Made.pile(x, 100), DviPages::pop, 99);
    DviPages x = new DviPages();
    Made.pile(x, 100);
    for (int i = 0; i < 3; i++) {
      DUE.is("one more", x.push(), -4);
      DUE.is("on the pile", x.count(6), 100);
      DUE.is("one less", x.pop(), 99);
      DUE.is("a hundred", x.push(), 100);
    }
    for (int i = 99; i >= 0; i--) {
      DUE.is("pop", x.pop(), i);
    }
    DUE.is("end", x.end(), 1);
    DUE.is("the next page has none", x.begin(0), 1);
    DUE.is("pop", x.pop(), -3);
  }

  /** "-3 no page" */
  private static void noPageForAPile() {
    TWINS.refused("push, no file", Made::fonts, DviPages::push, -3);
    TWINS.refused("push between pages", Made::betweenPages, DviPages::push, -3);
    TWINS.refused("push, finished", Made::finished, DviPages::push, -3);
    TWINS.refused("push, -3 before -4", x -> Made.filledBetweenPages(x, 0), DviPages::push, -3);
    TWINS.refused("pop, no file", Made::fonts, DviPages::pop, -3);
    TWINS.refused("pop between pages", Made::betweenPages, DviPages::pop, -3);
    TWINS.refused("pop, finished", Made::finished, DviPages::pop, -3);
  }

  /** "-3 no page, or none on it; -4 no room" */
  private static void noneOnThePile() {
    TWINS.refused("none", Made::page, DviPages::pop, -3);
    TWINS.taken("one", Made::busyPage, DviPages::pop, 0);
    TWINS.refused("none any more", x -> {
      Made.busyPage(x);
      x.pop();
    }, DviPages::pop, -3);
    TWINS.refused("none, and full", x -> Made.filled(x, 0), DviPages::pop, -3);
  }

  /** "or no room" */
  private static void roomForAPile() {
    roomFor("push", 1, DviPages::push);
    TWINS.taken("room for pop", x -> Made.filledWithPile(x, 1), DviPages::pop, 0);
    TWINS.refused("no room for pop", x -> Made.filledWithPile(x, 0), DviPages::pop, -4);
  }

  /** "-2 n not 1 .. 8" */
  private static void bytesOfASpecial() {
    for (int n : new int[] {MIN, -1, 0, 9, MAX}) {
      TWINS.refused("special of " + n, Made::busyPage, x -> x.special(1, n), -2);
      TWINS.refused("-2 before -3", Made::fonts, x -> x.special(1, n), -2);
      TWINS.refused("-2 before -4", x -> Made.filled(x, 0), x -> x.special(1, n), -2);
    }
  }

  /** "-3 no page" */
  private static void noPageForASpecial() {
    TWINS.refused("no file", Made::fonts, x -> x.special(1, 1), -3);
    TWINS.refused("between pages", Made::betweenPages, x -> x.special(1, 8), -3);
    TWINS.refused("finished", Made::finished, x -> x.special(1, 8), -3);
    TWINS.refused("-3 before -4", x -> Made.filledBetweenPages(x, 0), x -> x.special(1, 8), -3);
    TWINS.taken("no font is wanted", Made::page, x -> x.special(1, 1), 1);
  }

  /** "-4 no room" */
  private static void roomForASpecial() {
    for (int n = 1; n <= 8; n++) {
      int bytes = n;
      roomFor("special of " + n, 2 + n, x -> x.special(-1, bytes));
    }
  }

  /** "the lowest n bytes of a number, the highest of them first" */
  private static void lowestBytes() {
    long[] numbers = {Long.MIN_VALUE, -1, 0, 1, 0x80, 0x8091a2b3c4d5e6f7L, Long.MAX_VALUE};
    for (long number : numbers) {
      String all = String.format("%016x", number);
      for (int n = 1; n <= 8; n++) {
        int bytes = n;
        DUE.is(n + " bytes of " + all, added(Made::page, x -> x.special(number, bytes)),
            "ef0" + n + all.substring(16 - 2 * n));
      }
    }
  }

  /** "-3 no page" */
  private static void noPageToEnd() {
    TWINS.refused("no file", Made::fonts, DviPages::end, -3);
    TWINS.refused("between pages", Made::betweenPages, DviPages::end, -3);
    TWINS.refused("finished", Made::finished, DviPages::end, -3);
    TWINS.refused("-3 before -4", x -> Made.filledBetweenPages(x, 0), DviPages::end, -3);
    TWINS.taken("an empty page", Made::page, DviPages::end, 1);
    TWINS.taken("the twentieth", Made::twentiethPage, DviPages::end, 20);
  }

  /** "or some are on the pile" */
  private static void someOnThePile() {
    TWINS.refused("one", Made::busyPage, DviPages::end, -3);
    TWINS.refused("a hundred", x -> Made.pile(x, 100), DviPages::end, -3);
    TWINS.refused("-3 before -4", x -> Made.filledWithPile(x, 0), DviPages::end, -3);
    TWINS.taken("none any more", x -> {
      Made.busyPage(x);
      x.pop();
    }, DviPages::end, 1);
  }

  /** "-4 no room" */
  private static void roomForAnEnd() {
    roomFor("end", 1, DviPages::end);
  }

  /** "-3 none is begun, a page is, or it is finished already" */
  private static void nothingToFinish() {
    TWINS.refused("none is begun", Made::fonts, DviPages::finish, -3);
    TWINS.refused("a page is", Made::page, DviPages::finish, -3);
    TWINS.refused("a busy page is", Made::busyPage, DviPages::finish, -3);
    TWINS.refused("the twentieth page is", Made::twentiethPage, DviPages::finish, -3);
    TWINS.refused("finished already", Made::finished, DviPages::finish, -3);
    TWINS.refused("a page of the next file", x -> {
      Made.finished(x);
      x.begin(0);
    }, DviPages::finish, -3);
    TWINS.taken("one empty page", x -> {
      x.begin(0);
      x.end();
    }, DviPages::finish, 100);
  }

  /** "(It always has room.)" */
  private static void alwaysHasRoom() {
    DviPages x = new DviPages();
    Made.fortyFonts(x);
    x.begin(0);
    for (int i = 7; i <= 40; i++) {
      x.use(100 + i);
    }
    for (int number : new int[] {3, 0, 70, 255, 63, 64}) {
      x.use(number);
    }
    Made.fill(x, 1);
    x.end();
    DUE.is("full", x.count(1), 6000);
    DUE.is("with forty fonts", x.finish(), (6000 + 29 + 40 * 16 + 10 + 3) / 4 * 4);
    DUE.is("bytes", x.count(1), 6680);
    DUE.is("last byte", x.octet(6679), 223);
    DUE.is("check", x.check(), 1);
    DUE.is("loop", x.loop(), 6680);
    for (int left = 0; left < 4; left++) {
      DviPages y = new DviPages();
      Made.filledBetweenPages(y, left);
      DUE.is("multiple of four", y.finish() % 4, 0);
    }
  }

  /** "bytes 223, four at least, to the end; all bytes are a multiple of four" */
  private static void fourFillersAtLeast() {
    boolean[] seen = new boolean[8];
    for (int signs = 0; signs < 4; signs++) {
      DviPages x = new DviPages();
      Made.page(x);
      x.special(0, 1 + signs);
      x.end();
      int tail = x.count(1);
      int size = x.finish();
      DUE.is("multiple of four", size % 4, 0);
      int fillers = size - tail - 29 - 6;
      DUE.holds("four to seven", fillers >= 4 && fillers <= 7);
      seen[fillers] = true;
      for (int i = size - fillers; i < size; i++) {
        DUE.is("filler", x.octet(i), 223);
      }
      x.loop();
      DUE.is("read", x.read(), 1);
    }
    DUE.holds("four, five, six and seven", seen[4] && seen[5] && seen[6] && seen[7]);
  }

  /** The tail's last 12 bytes: the greatest V and H, the pile, the pages. */
  private static String endOfTail(DviPages x) {
    int tail = x.count(1);
    DUE.holds("finish", x.finish() > 0);
    return Bytes.hex(Bytes.written(x)).substring(2 * tail + 34, 2 * tail + 58);
  }

  private static String tail(int v, int h, int pile, int pages) {
    return new Bytes().s4(v, h).un(2, pile, pages).hex();
  }

  /** "the greatest V, ... the greatest H there was after a command on a page (0 at least)" */
  private static void greatestAre0AtLeast() {
    int[][] places = {{0, 0}, {-1, -1}, {1, 0}, {0, 1}, {-1000000, 1000000}, {1000000, -1000000}};
    for (int[] place : places) {
      DviPages x = new DviPages();
      Made.page(x);
      x.move(false, place[0]);
      x.move(true, place[1]);
      x.push();
      x.move(false, -500);
      x.move(true, -500);
      x.pop();
      x.move(false, -1);
      x.move(true, -1);
      x.end();
      DUE.is("greatest", endOfTail(x), tail(Math.max(0, place[1]), Math.max(0, place[0]), 1, 1));
    }
    DviPages x = new DviPages();
    Made.at(x, FAR, FAR);
    x.end();
    DUE.is("2 to the 30th", endOfTail(x), tail(FAR, FAR, 0, 1));
    x.begin(0);
    x.end();
    DUE.is("of this file alone", endOfTail(x), tail(0, 0, 0, 1));
  }

  /** "u2 how many were on the pile at once at most, u2 how many pages" */
  private static void pileAtMost() {
    for (int n : new int[] {0, 1, 99, 100}) {
      DviPages x = new DviPages();
      Made.pile(x, n);
      x.push();
      while (x.count(6) > 0) {
        x.pop();
      }
      x.end();
      int h = 0;
      for (int i = 0; i < n; i++) {
        h += i % 3 + 5;
      }
      DUE.is("pile of " + n, endOfTail(x), tail(0, h, Math.min(100, n + 1), 1));
    }
    DviPages x = new DviPages();
    Made.twentyPages(x);
    DUE.is("twenty pages", endOfTail(x), tail(0, 0, 0, 20));
  }

  /** "At the end all fonts that the file has, by their numbers." */
  private static void fontsAtTheEnd() {
    DviPages x = new DviPages();
    Made.page(x);
    for (int number : new int[] {255, 64, 0, 63}) {
      x.use(number);
    }
    x.end();
    int tail = x.count(1);
    x.finish();
    DUE.is("by their numbers", Bytes.hex(Bytes.written(x)).substring(2 * tail + 58, 2 * tail + 186),
        new Bytes().define(0, -5).define(63, 80).define(64, 81).define(255, 79).hex());
    x.begin(0);
    x.end();
    DUE.is("none in the next file", x.finish(), 100);
  }

  private static String thrownBy(DviPages x, int i) {
    try {
      x.octet(i);
      return "nothing";
    } catch (RuntimeException e) {
      return e.getClass().getSimpleName();
    }
  }

  private static void noOctet(String what, Consumer<DviPages> made, int i) {
    TWINS.refused(what, made,
        x -> thrownBy(x, i).equals("ArrayIndexOutOfBoundsException") ? 1 : 0, 1);
  }

  /** "ArrayIndexOutOfBounds: there is none such" */
  private static void octetsThereAreNot() {
    noOctet("no file", Made::fonts, 0);
    noOctet("no file, -1", Made::fonts, -1);
    for (int i : new int[] {MIN, -1, 60, 61, 6000, 6682, 6683, 100000, MAX}) {
      noOctet("octet " + i, Made::page, i);
    }
    noOctet("behind a full file", x -> Made.filled(x, 0), 6000);
    noOctet("behind a finished file", x -> {
      x.begin(0);
      x.end();
      x.finish();
    }, 100);
    noOctet("of the file before", x -> {
      Made.finished(x);
      x.begin(0);
    }, 60);
    DviPages x = new DviPages();
    x.begin(-1);
    DUE.is("first", x.octet(0), 247);
    DUE.is("last", x.octet(59), 255);
    x.end();
    DUE.is("one more", x.octet(60), 140);
    DUE.is("last of all", x.octet(x.finish() - 1), 223);
  }

  /** "Byte i of the file, 0 .. 255" */
  private static void octetsOfAllValues() {
    DviPages x = new DviPages();
    Made.page(x);
    x.use(3);
    int before = x.count(1);
    for (int octet = 0; octet < 256; octet++) {
      x.special(octet, 1);
    }
    for (int octet = 0; octet < 256; octet++) {
      DUE.is("octet", x.octet(before + 3 * octet + 2), octet);
    }
  }

  /** "(1 also when there is none such)" */
  private static void checkPages() {
    DUE.is("no file", new DviPages().check(), 1);
    TWINS.taken("a page is begun", Made::page, DviPages::check, 1);
    TWINS.taken("not finished", Made::betweenPages, DviPages::check, 1);
    TWINS.taken("one page", Made::finished, DviPages::check, 1);
    DviPages x = TWINS.taken("twenty pages", Made::twentyPages, DviPages::check, 1);
    x.finish();
    DUE.is("twenty pages, finished", x.check(), 1);
    x.begin(0);
    DUE.is("the next file", x.check(), 1);
    x.end();
    x.begin(1);
    x.end();
    x.finish();
    DUE.is("the next file, finished", x.check(), 1);
    DUE.is("check is asked again", x.check(), 1);
  }
}
