/** Promises 5 to 15 and 24: what is written, byte by byte, and what is refused. */
public final class WritingTest {
  private static final Due DUE = new Due();

  public static void main(String[] args) {
    pages();
    fontsAtHand();
    signs();
    rules();
    movesAlong();
    movesUpright();
    movesAndPiles();
    shortestMoves();
    piles();
    specials();
    wholeFile();
    greatest();
    nextFile();
    octets();
    refusalsOutsideAPage();
    refusalsChangeNothing();
    farAway();
    room();
    DUE.end();
  }

  /** What a page has behind its 139, its counts and its pointer. */
  private static String body(DviPages x) {
    return Bytes.hex(Bytes.written(x)).substring(120);
  }

  private static DviPages page() {
    DviPages x = new DviPages();
    x.font(3, 77);
    x.font(63, 78);
    x.font(64, -2);
    x.font(255, 79);
    DUE.is("first page", x.begin(-9), 0);
    return x;
  }

  private static void pages() {
    DviPages x = new DviPages();
    DUE.is("begin", x.begin(Integer.MIN_VALUE), 0);
    DUE.is("begin on a page", x.begin(1), -3);
    DUE.is("a page that is begun counts", x.count(2), 1);
    DUE.is("bytes", x.count(1), 60);
    DUE.is("head and page", Bytes.hex(Bytes.written(x)),
        new Bytes().head(1000).page(Integer.MIN_VALUE, -1).hex());
    DUE.is("end", x.end(), 1);
    DUE.is("end twice", x.end(), -3);
    DUE.is("second page", x.begin(5), 1);
    DUE.is("pointer", Bytes.hex(Bytes.written(x)),
        new Bytes().head(1000).page(Integer.MIN_VALUE, -1).u1(140).page(5, 15).hex());
    for (int i = 2; i < 20; i++) {
      DUE.is("end " + i, x.end(), i);
      DUE.is("begin " + i, x.begin(i), i);
    }
    DUE.is("-3 before -4", x.begin(20), -3);
    DUE.is("end 20", x.end(), 20);
    DUE.is("a 21st page", x.begin(20), -4);
    DUE.is("pages", x.count(2), 20);
    DUE.is("bytes of 20 pages", x.finish(), (15 + 20 * 46 + 29 + 10 + 3) / 4 * 4);
    DUE.is("check", x.check(), 1);
    DUE.is("next file", x.begin(20), 0);
    DUE.is("pages of the next file", x.count(2), 1);
  }

  private static void fontsAtHand() {
    DviPages x = page();
    DUE.is("use", x.use(3), 1);
    Bytes want = new Bytes().define(3, 77).u1(171 + 3);
    DUE.is("defined before it is at hand", body(x), want.hex());
    DUE.is("use again", x.use(3), 1);
    DUE.is("already at hand", body(x), want.hex());
    x.use(63);
    want.define(63, 78).u1(234);
    DUE.is("font 63", body(x), want.hex());
    x.use(64);
    want.define(64, -2).u1(235, 64);
    DUE.is("font 64", body(x), want.hex());
    x.use(255);
    x.use(3);
    want.define(255, 79).u1(235, 255, 174);
    DUE.is("defined once", body(x), want.hex());
    DUE.is("no such font", x.use(4), -1);
    x.end();
    DUE.is("no page", x.use(3), -3);
    DUE.is("-1 before -3", x.use(4), -1);
    x.begin(0);
    DUE.is("no font on a new page", x.set(1, false), -3);
    x.use(3);
    want.u1(140).page(0, 15).u1(174);
    DUE.is("defined once in a file", body(x), want.hex());
    x.push();
    x.use(63);
    x.pop();
    x.use(63);
    want.u1(141, 234, 142);
    DUE.is("fonts do not come from the pile", body(x), want.hex());
  }

  private static void signs() {
    DviPages x = page();
    DUE.is("no font", x.set(0, false), -3);
    DUE.is("-2 before -3", x.set(-1, false), -2);
    DUE.is("256", x.set(256, true), -2);
    x.use(3);
    int before = x.count(1);
    DUE.is("0", x.set(0, false), 1);
    DUE.is("127", x.set(127, false), 1);
    DUE.is("128", x.set(128, false), 1);
    DUE.is("255", x.set(255, false), 1);
    DUE.is("0 stays", x.set(0, true), 1);
    DUE.is("255 stays", x.set(255, true), 1);
    DUE.is("signs", Bytes.hex(Bytes.written(x)).substring(2 * before),
        new Bytes().u1(0, 127, 128, 128, 128, 255, 133, 0, 133, 255).hex());
  }

  private static void rules() {
    DviPages x = page();
    DUE.is("rule", x.rule(3, 4, false), 1);
    DUE.is("stays", x.rule(1000000, -1000000, true), 1);
    DUE.is("none", x.rule(0, 0, false), 1);
    DUE.is("rules", body(x),
        new Bytes().u1(132).s4(3, 4).u1(137).s4(1000000, -1000000).u1(132).s4(0, 0).hex());
    DUE.is("height", x.rule(1000001, 0, false), -2);
    DUE.is("height below", x.rule(-1000001, 0, false), -2);
    DUE.is("width", x.rule(0, 1000001, true), -2);
    DUE.is("width below", x.rule(0, Integer.MIN_VALUE, true), -2);
    x.end();
    DUE.is("-2 before -3", x.rule(0, 1000001, true), -2);
    DUE.is("no page", x.rule(1, 1, true), -3);
  }

  private static void along(DviPages x, int... moves) {
    for (int by : moves) {
      DUE.is("move " + by, x.move(false, by), 1);
    }
  }

  private static void upright(DviPages x, int... moves) {
    for (int by : moves) {
      DUE.is("move up and down " + by, x.move(true, by), 1);
    }
  }

  private static void movesAlong() {
    DviPages x = page();
    along(x, 0, 5, 5, 6, 6, 5, 7, 5, 6, 7, 0, 8);
    // 5: W; 6: X; 7: W, for X came later; then 5 is in neither and takes X; 6 takes W; 7 X; 8 W.
    DUE.is("W and X take turns", body(x),
        new Bytes().u1(148, 5, 147, 153, 6, 152, 147, 148, 7, 153, 5, 148, 6, 153, 7, 148, 8).hex());
    x.end();
    x.begin(0);
    int before = x.count(1);
    along(x, 7, 8);
    DUE.is("a page begins with W", Bytes.hex(Bytes.written(x)).substring(2 * before),
        new Bytes().u1(148, 7, 153, 8).hex());
  }

  private static void movesUpright() {
    DviPages x = page();
    upright(x, 0, 5, 5, 6, 6, 5, 7, 5);
    along(x, 5);
    DUE.is("Y and Z take turns", body(x),
        new Bytes().u1(162, 5, 161, 167, 6, 166, 161, 162, 7, 167, 5, 148, 5).hex());
    DUE.is("too far up", x.move(true, 1000001), -2);
    DUE.is("too far down", x.move(true, Integer.MIN_VALUE), -2);
    x.end();
    DUE.is("no page", x.move(true, 0), -3);
    DUE.is("-2 before -3", x.move(true, 1000001), -2);
  }

  private static void movesAndPiles() {
    DviPages x = page();
    along(x, 1);
    upright(x, 9);
    x.push();
    along(x, 2, 1, 3);
    upright(x, 8, 7);
    x.pop();
    // W is 1 and X 0 again, Y 9 and Z 0, and it is X's and Z's turn as it was at the push.
    along(x, 1, 3, 2);
    upright(x, 9, 7, 8);
    DUE.is("values and turns come back", body(x),
        new Bytes().u1(148, 1, 162, 9, 141, 153, 2, 147, 148, 3, 167, 8, 162, 7, 142)
            .u1(147, 153, 3, 148, 2, 161, 167, 7, 162, 8).hex());
    x = page();
    x.push();
    along(x, 1);
    x.pop();
    along(x, 1);
    DUE.is("W's turn comes back", body(x), new Bytes().u1(141, 148, 1, 142, 148, 1).hex());
  }

  private static void shortestMoves() {
    int[][] edges = {
      {127, 1}, {128, 2}, {-128, 1}, {-129, 2}, {32767, 2}, {32768, 3}, {-32768, 2}, {-32769, 3},
      {1000000, 3}, {-1000000, 3}, {1, 1}, {-1, 1}
    };
    for (int[] edge : edges) {
      DviPages x = page();
      along(x, edge[0], edge[0] / 2 + 7);
      upright(x, edge[0]);
      Bytes want = new Bytes().u1(147 + edge[1]).un(edge[1], edge[0]);
      DUE.is("bytes of " + edge[0], body(x).substring(0, 2 + 2 * edge[1]), want.hex());
      String up = new Bytes().u1(161 + edge[1]).un(edge[1], edge[0]).hex();
      DUE.holds("bytes of " + edge[0] + " upright", body(x).endsWith(up));
    }
    DviPages x = page();
    along(x, 1, 128, 32768);
    along(x, -200);
    upright(x, 1, 128, 32768, -40000);
    DUE.is("in X and Z, too", body(x),
        new Bytes().u1(148, 1, 154).un(2, 128).u1(150).un(3, 32768).u1(154).un(2, -200)
            .u1(162, 1, 168).un(2, 128).u1(164).un(3, 32768).u1(169).un(3, -40000).hex());
  }

  private static void piles() {
    DviPages x = page();
    DUE.is("pop of none", x.pop(), -3);
    DUE.is("push", x.push(), 1);
    DUE.is("push 2", x.push(), 2);
    DUE.is("on the pile", x.count(6), 2);
    DUE.is("end with a pile", x.end(), -3);
    DUE.is("pop", x.pop(), 1);
    DUE.is("pop 2", x.pop(), 0);
    DUE.is("pop 3", x.pop(), -3);
    DUE.is("bytes", body(x), "8d8d8e8e");
    for (int i = 1; i <= 100; i++) {
      DUE.is("push", x.push(), i);
    }
    DUE.is("push 101", x.push(), -4);
    DUE.is("on the pile", x.count(6), 100);
    for (int i = 99; i >= 0; i--) {
      DUE.is("pop", x.pop(), i);
    }
    x.end();
    x.finish();
    x.loop();
    DUE.is("read", x.read(), 1);
    DUE.is("on the pile", x.count(6), 0);
  }

  private static void specials() {
    DviPages x = page();
    DUE.is("0 bytes", x.special(1, 0), -2);
    DUE.is("9 bytes", x.special(1, 9), -2);
    DUE.is("1 byte", x.special(0x1234, 1), 1);
    DUE.is("8 bytes", x.special(0x8122334455667788L, 8), 1);
    DUE.is("5 bytes", x.special(0x22334455667788L, 5), 1);
    DUE.is("specials", body(x), "ef0134" + "ef088122334455667788" + "ef054455667788");
    x.end();
    DUE.is("no page", x.special(1, 1), -3);
    DUE.is("-2 before -3", x.special(1, 9), -2);
  }

  private static void wholeFile() {
    DviPages x = new DviPages();
    x.font(200, -5);
    x.font(7, 100);
    x.font(9, 101);
    x.width(7, 65, 10);
    x.magnify(2000);
    x.begin(4);
    x.use(200);
    x.use(7);
    x.set(65, false);
    x.push();
    x.move(true, 300);
    x.push();
    x.pop();
    x.pop();
    x.end();
    Bytes want = new Bytes().head(2000).page(4, -1).define(200, -5).u1(235, 200).define(7, 100)
        .u1(178, 65, 141, 162 + 1).un(2, 300).u1(141, 142, 142, 140);
    DUE.is("before it is finished", Bytes.hex(Bytes.written(x)), want.hex());
    DUE.is("check before it is finished", x.check(), 1);
    int tail = want.size();
    want.tail(15, 2000, 300, 10, 2, 1).define(7, 100).define(200, -5).last(tail);
    DUE.is("finish", x.finish(), want.size());
    DUE.is("whole", Bytes.hex(Bytes.written(x)), want.hex());
    DUE.is("bytes", x.count(1), want.size());
    DUE.is("finish twice", x.finish(), -3);
    DUE.is("check", x.check(), 1);
    x.loop();
    DUE.is("read", x.read(), 1);
    fillers();
  }

  private static void fillers() {
    for (int n = 1; n <= 8; n++) {
      DviPages x = new DviPages();
      x.begin(0);
      x.special(0, n);
      x.end();
      int before = x.count(1);
      int size = x.finish();
      DUE.is("multiple of four", size % 4, 0);
      int fillers = size - before - 29 - 6;
      DUE.holds("four to seven fillers", fillers >= 4 && fillers <= 7);
      for (int i = size - fillers; i < size; i++) {
        DUE.is("filler", x.octet(i), 223);
      }
      DUE.is("form", x.octet(size - fillers - 1), 2);
    }
  }

  /** The greatest V and H stand 12 bytes before the tail's end. */
  private static String greatestOf(DviPages x) {
    x.end();
    int tail = x.count(1);
    x.finish();
    return Bytes.hex(Bytes.written(x)).substring(2 * (tail + 17), 2 * (tail + 29));
  }

  private static void greatest() {
    DviPages x = page();
    along(x, -5);
    upright(x, -6);
    DUE.is("0 at least", greatestOf(x), new Bytes().s4(0, 0).un(2, 0, 1).hex());
    x.begin(0);
    upright(x, 50, 30, -100);
    along(x, 40);
    x.push();
    x.rule(-3, 20, false);
    x.pop();
    x.rule(5, 90, true);
    DUE.is("greatest", greatestOf(x), new Bytes().s4(80, 60).un(2, 1, 1).hex());
    x.begin(0);
    x.push();
    x.push();
    x.pop();
    x.pop();
    upright(x, 5);
    x.end();
    x.begin(0);
    along(x, 7);
    DUE.is("over all pages of one file", greatestOf(x), new Bytes().s4(5, 7).un(2, 2, 2).hex());
  }

  private static void nextFile() {
    DviPages x = page();
    x.use(3);
    x.end();
    x.finish();
    int size = x.count(1);
    DUE.is("the file stays", x.count(2), 1);
    DUE.is("end", x.end(), -3);
    DUE.is("still the file", x.count(1), size);
    DUE.is("begin", x.begin(1), 0);
    DUE.is("no font at hand", x.set(1, false), -3);
    x.use(3);
    DUE.is("a new file tells its fonts anew", Bytes.hex(Bytes.written(x)),
        new Bytes().head(1000).page(1, -1).define(3, 77).u1(174).hex());
    x.end();
    x.finish();
    x.begin(1);
    x.end();
    DUE.is("no fonts of the file before", x.finish(), 100);
  }

  private static boolean hasOctet(DviPages x, int i) {
    try {
      x.octet(i);
      return true;
    } catch (ArrayIndexOutOfBoundsException e) {
      return false;
    }
  }

  private static void octets() {
    DviPages x = new DviPages();
    DUE.holds("no octet without a file", !hasOctet(x, 0));
    x.begin(0);
    DUE.holds("octet 59", hasOctet(x, 59));
    DUE.holds("no octet 60", !hasOctet(x, 60));
    DUE.holds("no octet -1", !hasOctet(x, -1));
    DUE.holds("no least octet", !hasOctet(x, Integer.MIN_VALUE));
    DUE.holds("no greatest octet", !hasOctet(x, Integer.MAX_VALUE));
    DUE.is("octet 0", x.octet(0), 247);
    DUE.is("octet 59", x.octet(59), 255);
    x.end();
    x.finish();
    x.begin(0);
    DUE.holds("no octet of the file before", !hasOctet(x, 60));
  }

  private static void refusalsOutsideAPage() {
    DviPages x = new DviPages();
    x.font(1, 1);
    for (int round = 0; round < 3; round++) {
      DUE.is("use", x.use(1), -3);
      DUE.is("set", x.set(1, false), -3);
      DUE.is("rule", x.rule(1, 1, false), -3);
      DUE.is("move", x.move(false, 1), -3);
      DUE.is("push", x.push(), -3);
      DUE.is("pop", x.pop(), -3);
      DUE.is("special", x.special(1, 1), -3);
      DUE.is("end", x.end(), -3);
      if (round != 1) {
        DUE.is("finish", x.finish(), -3);
        x.begin(0);
        DUE.is("finish on a page", x.finish(), -3);
        x.end();
      } else {
        x.finish();
      }
    }
  }

  private static void refusalsChangeNothing() {
    DviPages x = page();
    x.use(3);
    x.push();
    String before = Bytes.hex(Bytes.written(x));
    x.begin(5);
    x.use(4);
    x.set(256, false);
    x.rule(1, 1000001, false);
    x.move(false, 1000001);
    x.special(1, 9);
    x.end();
    x.finish();
    x.magnify(5);
    x.font(3, 5);
    x.width(3, 256, 5);
    DUE.is("nothing is written", Bytes.hex(Bytes.written(x)), before);
    DUE.is("on the pile", x.count(6), 1);
    DUE.is("pages", x.count(2), 1);
    DUE.is("fonts", x.count(0), 4);
  }

  /** 2 to the 30th is farther than 512 calls can go; what is looked at must hold there, too. */
  private static void farAway() {
    DviPages x = page();
    x.use(3);
    x.width(3, 1, 1000000);
    for (int i = 0; i < 1073; i++) {
      along(x, 1000000);
      upright(x, -1000000);
    }
    int left = (1 << 30) - 1073000000;
    DUE.is("sign", x.set(1, false), -2);
    DUE.is("rule", x.rule(1, 1000000, false), -2);
    DUE.is("move", x.move(false, left + 1), -2);
    DUE.is("move up", x.move(true, -left - 1), -2);
    DUE.is("sign stays", x.set(1, true), 1);
    DUE.is("rule stays", x.rule(1, 1000000, true), 1);
    DUE.is("just there", x.move(false, left), 1);
    DUE.is("just there, up", x.move(true, -left), 1);
    DUE.is("one more", x.move(false, 1), -2);
    DUE.is("one more, up", x.move(true, -1), -2);
    DUE.is("one less", x.move(false, -1), 1);
  }

  /** So are 6000 bytes; but no call may ever write behind the row. */
  private static void room() {
    DviPages x = page();
    x.font(0, 1);
    x.use(0);
    while (x.count(1) + 10 <= 6000) {
      DUE.is("special", x.special(1, 8), 1);
    }
    DUE.is("no room for ten", x.special(1, 8), -4);
    while (x.count(1) < 5998) {
      DUE.is("sign", x.set(1, false), 1);
    }
    DUE.is("rule", x.rule(1, 1, false), -4);
    DUE.is("definition", x.use(3), -4);
    DUE.is("move", x.move(false, 1000), -4);
    DUE.is("move of two", x.move(false, 1), 1);
    DUE.is("6000", x.count(1), 6000);
    DUE.is("sign", x.set(1, false), -4);
    DUE.is("known move", x.move(false, 1), -4);
    DUE.is("no move", x.move(false, 0), 1);
    DUE.is("push", x.push(), -4);
    DUE.is("end", x.end(), -4);
    DUE.is("font at hand", x.use(0), 1);
    fullFileFinishes();
    roomToTheByte();
  }

  private static int[] call(DviPages x, int kind) {
    switch (kind) {
      case 0: return new int[] {17, x.use(3)};
      case 1: return new int[] {18, x.use(64)};
      case 2: return new int[] {1, x.use(63)};
      case 3: return new int[] {2, x.use(255)};
      case 4: return new int[] {1, x.set(127, false)};
      case 5: return new int[] {2, x.set(128, false)};
      case 6: return new int[] {2, x.set(1, true)};
      case 7: return new int[] {9, x.rule(1, 1, true)};
      case 8: return new int[] {1, x.move(false, 9)};
      case 9: return new int[] {2, x.move(false, 1)};
      case 10: return new int[] {3, x.move(true, 128)};
      case 11: return new int[] {4, x.move(true, 32768)};
      case 12: return new int[] {7, x.special(1, 5)};
      case 13: return new int[] {1, x.pop() == 0 ? 1 : -4};
      default: return new int[] {1, x.push() == 2 ? 1 : -4};
    }
  }

  /** Each call in a file that has just room for it, or a byte less. */
  private static void roomToTheByte() {
    for (int kind = 0; kind < 15; kind++) {
      for (int left = 0; left < 20; left++) {
        DviPages x = page();
        x.font(0, 1);
        x.use(63);
        x.use(255);
        x.use(0);
        x.move(false, 9);
        x.push();
        while (x.count(1) + 20 <= 6000 - left) {
          x.special(1, 8);
        }
        while (x.count(1) < 6000 - left) {
          x.set(1, false);
        }
        String before = Bytes.hex(Bytes.written(x));
        int[] bytesAndAnswer = call(x, kind);
        boolean fits = bytesAndAnswer[0] <= left;
        DUE.is("call " + kind + " with " + left, bytesAndAnswer[1], fits ? 1 : -4);
        DUE.is("bytes", x.count(1), 6000 - left + (fits ? bytesAndAnswer[0] : 0));
        DUE.is("bytes before", Bytes.hex(Bytes.written(x)).substring(0, before.length()), before);
      }
    }
  }

  private static void fullFileFinishes() {
    DviPages x = new DviPages();
    x.begin(0);
    for (int i = 0; i < 40; i++) {
      x.font(i, i);
      x.use(i);
    }
    while (x.count(1) + 10 <= 5950) {
      x.special(1, 8);
    }
    while (x.count(1) < 5954) {
      x.set(1, false);
    }
    x.end();
    DUE.is("a page more", x.begin(0), 1);
    DUE.is("6000", x.count(1), 6000);
    DUE.is("end", x.end(), -4);
    x = new DviPages();
    x.begin(0);
    for (int i = 0; i < 40; i++) {
      x.font(i, i);
      x.use(i);
    }
    while (x.count(1) < 5999) {
      x.set(1, false);
    }
    DUE.is("end", x.end(), 1);
    DUE.is("no room for a page", x.begin(0), -4);
    DUE.is("finish", x.finish(), (6000 + 29 + 640 + 10 + 3) / 4 * 4);
    DUE.is("loop", x.loop(), x.count(1));
    DUE.is("check", x.check(), 1);
  }
}
