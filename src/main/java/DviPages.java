/**
 * Pages in the form that is independent of devices: a file is written command by command, and bytes
 * are read back into what stands where. The numbered promises are those of the document.
 */
public final class DviPages {
  private static final long NONE = -1000000000000L;

  // Refusals, in the order in which they are looked for.
  private static final int UNKNOWN = -1;
  private static final int OUTSIDE = -2;
  private static final int NOT_NOW = -3;
  private static final int NO_ROOM = -4;

  private static final int DONE = 1;

  private static final int FONTS_AT_MOST = 40;
  private static final int SIGNS = 256;
  private static final int PAGES_AT_MOST = 20;
  private static final int ITEMS_AT_MOST = 600;
  private static final int PILE_AT_MOST = 100;
  private static final int FILE_AT_MOST = 6000;
  private static final int SOURCE_AT_MOST = 8000;
  private static final int LENGTH_AT_MOST = 1000000;
  private static final int FARTHEST = 1 << 30;
  private static final int MAGNIFICATION_AT_MOST = 32768;
  private static final int COUNTS = 10;

  // Commands.
  private static final int SET_1 = 128;
  private static final int SET_RULE = 132;
  private static final int PUT_1 = 133;
  private static final int PUT_RULE = 137;
  private static final int NOTHING = 138;
  private static final int PAGE_BEGINS = 139;
  private static final int PAGE_ENDS = 140;
  private static final int PILE_PUT = 141;
  private static final int PILE_TAKE = 142;
  private static final int ALONG_1 = 143;
  private static final int ALONG_W = 147;
  private static final int UPRIGHT_1 = 157;
  private static final int UPRIGHT_Y = 161;
  private static final int FONT_0 = 171;
  private static final int FONT_1 = 235;
  private static final int SPECIAL_1 = 239;
  private static final int DEFINE_1 = 243;
  private static final int HEAD = 247;
  private static final int TAIL = 248;
  private static final int LAST = 249;
  private static final int FILLER = 223;

  // Moves along, and upright: four plain ones, then five for each of the two that are remembered.
  private static final int REMEMBERED = 4;
  private static final int REMEMBERED_FORMS = 5;

  private static final int FORM = 2;
  private static final int NUMERATOR = 25400000;
  private static final int DENOMINATOR = 473628672;
  private static final int FONT_SCALE = 655360;

  // How many bytes a command has in all.
  private static final int HEAD_BYTES = 15;
  private static final int PAGE_BYTES = 45;
  private static final int RULE_BYTES = 9;
  private static final int DEFINE_BYTES = 16;
  private static final int TAIL_BYTES = 29;
  private static final int LAST_BYTES = 6;
  private static final int FILLERS_AT_LEAST = 4;
  private static final int BACK_POINTER = 41;

  // finish() always has room, so the row is longer than what the other calls may fill.
  private static final int FILE_ROW =
      FILE_AT_MOST + TAIL_BYTES + FONTS_AT_MOST * DEFINE_BYTES + LAST_BYTES + FILLERS_AT_LEAST + 3;

  // Slots of a place; a turn tells which of two remembered moves is to become another one next.
  private static final int H = 0;
  private static final int V = 1;
  private static final int W = 2;
  private static final int Y = 4;
  private static final int TURN_ALONG = 6;
  private static final int TURN_UPRIGHT = 7;
  private static final int SLOTS = 8;

  // Which commands a reader takes next.
  private static final int AT_HEAD = 0;
  private static final int BETWEEN_PAGES = 1;
  private static final int ON_PAGE = 2;
  private static final int BEHIND_TAIL = 3;
  private static final int AT_END = 4;

  private static final int FAULT_ORDER = 1;
  private static final int FAULT_LENGTH = 2;
  private static final int FAULT_FONT = 3;
  private static final int FAULT_SIGN = 4;
  private static final int FAULT_PILE = 5;
  private static final int FAULT_PILE_FULL = 6;
  private static final int FAULT_POINTER = 7;
  private static final int FAULT_NUMBER = 8;
  private static final int FAULT_LIMIT = 9;
  private static final int FAULT_FILLER = 10;

  private static final int SIGN = 0;
  private static final int RULE = 1;
  private static final int SPECIAL = 2;

  private static final int ITEM_PAGE = 0;
  private static final int ITEM_KIND = 1;
  private static final int ITEM_H = 2;
  private static final int ITEM_V = 3;
  private static final int ITEM_FIRST = 4;
  private static final int ITEM_SECOND = 5;
  private static final int ITEM_H_MAGNIFIED = 6;
  private static final int ITEM_V_MAGNIFIED = 7;
  private static final int ITEM_SLOTS = 6;

  private final Fonts fonts;
  private final Setter setter;
  private final Octets source;
  private final Interpreter interpreter;

  public DviPages() {
    fonts = new Fonts();
    setter = new Setter();
    source = new Octets(SOURCE_AT_MOST);
    interpreter = new Interpreter();
  }

  public int font(int number, int check) {
    return fonts.define(number, check);
  }

  public int width(int number, int sign, int w) {
    return fonts.widen(number, sign, w);
  }

  public int magnify(int m) {
    return setter.magnifyNext(m);
  }

  public int begin(int count) {
    return setter.beginPage(count);
  }

  public int use(int number) {
    return setter.takeFont(fonts, number);
  }

  public int set(int sign, boolean stays) {
    return setter.putSign(fonts, sign, stays);
  }

  public int rule(int height, int width, boolean stays) {
    return setter.putRule(height, width, stays);
  }

  public int move(boolean upright, int by) {
    return setter.go(upright, by);
  }

  public int push() {
    return setter.pileUp();
  }

  public int pop() {
    return setter.pileDown();
  }

  public int special(long bytes, int n) {
    return setter.putSpecial(bytes, n);
  }

  public int end() {
    return setter.endPage();
  }

  public int finish() {
    return setter.finishFile(fonts);
  }

  public int octet(int i) throws ArrayIndexOutOfBoundsException {
    if (!setter.file.has(i)) {
      throw new ArrayIndexOutOfBoundsException();
    }
    return setter.file.at(i);
  }

  public int load(long bytes, int n) {
    if (n < 1 || n > 8) {
      return OUTSIDE;
    }
    if (source.size + n > SOURCE_AT_MOST) {
      return NO_ROOM;
    }
    source.addNumber(bytes, n);
    return source.size;
  }

  public int loop() {
    source.copy(setter.file);
    return source.size;
  }

  public int drop() {
    int before = source.size;
    source.size = 0;
    return before;
  }

  public int read() {
    return interpreter.interpret(source, fonts);
  }

  public int fault() {
    return interpreter.fault;
  }

  public long item(int i, int what) {
    Items items = interpreter.items;
    if (i < 0 || i >= items.size) {
      return NONE;
    }
    if (what == ITEM_H_MAGNIFIED) {
      return magnified(items.at(i, ITEM_H));
    }
    if (what == ITEM_V_MAGNIFIED) {
      return magnified(items.at(i, ITEM_V));
    }
    return what < 0 || what >= ITEM_SLOTS ? NONE : items.at(i, what);
  }

  private long magnified(int length) {
    return Math.floorDiv((long) length * interpreter.magnification, 1000L);
  }

  public long counted(int page, int k) {
    if (page < 0 || page >= interpreter.pages || k < 0 || k >= COUNTS) {
      return NONE;
    }
    return interpreter.countOf(page, k);
  }

  public int count(int what) {
    switch (what) {
      case 0:
        return fonts.size;
      case 1:
        return setter.file.size;
      case 2:
        return setter.pages;
      case 3:
        return source.size;
      case 4:
        return interpreter.pages;
      case 5:
        return interpreter.items.size;
      case 6:
        return setter.place.depth;
      default:
        return OUTSIDE;
    }
  }

  public int check() {
    return setter.findsAllPages() ? 1 : 0;
  }

  private static boolean isOctet(int number) {
    return number >= 0 && number < SIGNS;
  }

  private static boolean isLength(int length) {
    return length >= -LENGTH_AT_MOST && length <= LENGTH_AT_MOST;
  }

  /** Bytes in a row of a fixed length; what is outside is read as 0 and not written. */
  private static final class Octets {
    final byte[] row;
    int size;

    Octets(int length) {
      row = new byte[length < 0 ? 0 : length];
      size = 0;
    }

    boolean has(int i) {
      return i >= 0 && i < size;
    }

    int at(int i) {
      return i >= 0 && i < size && i < row.length ? row[i] & 255 : 0;
    }

    void add(int octet) {
      if (size >= 0 && size < row.length) {
        row[size] = (byte) octet;
        size++;
      }
    }

    /** The lowest n bytes, the highest of them first. */
    void addNumber(long number, int n) {
      for (int i = n - 1; i >= 0; i--) {
        add((int) (number >> (8 * i)));
      }
    }

    void copy(Octets other) {
      size = Math.max(0, Math.min(other.size, Math.min(other.row.length, row.length)));
      System.arraycopy(other.row, 0, row, 0, size);
    }

    /** n bytes as one number: u1, u2, u3, s4, for only four of them reach an int's sign. */
    int number(int from, int n) {
      int number = 0;
      for (int i = 0; i < n; i++) {
        number = (number << 8) | at(from + i);
      }
      return number;
    }

    /** One to four bytes as a number with a sign: s1 .. s4. */
    int signed(int from, int n) {
      int free = 32 - 8 * n;
      return (number(from, n) << free) >> free;
    }
  }

  /** The fonts, told apart by their place in the order in which they came. */
  private static final class Fonts {
    final int[] numbers = new int[FONTS_AT_MOST];
    final int[] checks = new int[FONTS_AT_MOST];
    final int[] widths = new int[FONTS_AT_MOST * SIGNS];
    int size = 0;

    int define(int number, int check) {
      if (!isOctet(number)) {
        return OUTSIDE;
      }
      if (withNumber(number) >= 0 || withCheck(check) >= 0) {
        return NOT_NOW;
      }
      if (size < 0 || size >= FONTS_AT_MOST) {
        return NO_ROOM;
      }
      numbers[size] = number;
      checks[size] = check;
      size++;
      return size;
    }

    int widen(int number, int sign, int w) {
      int font = withNumber(number);
      if (font < 0) {
        return UNKNOWN;
      }
      if (!isOctet(sign) || !isLength(w)) {
        return OUTSIDE;
      }
      int i = font * SIGNS + sign;
      if (i >= 0 && i < widths.length) {
        widths[i] = w;
      }
      return DONE;
    }

    /** Which font has this number; -1 if none. */
    int withNumber(int number) {
      for (int i = 0; i < size && i < numbers.length; i++) {
        if (numbers[i] == number) {
          return i;
        }
      }
      return -1;
    }

    /** Which font has this CHECK; -1 if none. */
    int withCheck(int check) {
      for (int i = 0; i < size && i < checks.length; i++) {
        if (checks[i] == check) {
          return i;
        }
      }
      return -1;
    }

    int numberOf(int font) {
      return font >= 0 && font < numbers.length ? numbers[font] : 0;
    }

    int checkOf(int font) {
      return font >= 0 && font < checks.length ? checks[font] : 0;
    }

    int widthOf(int font, int sign) {
      int i = font * SIGNS + sign;
      return i >= 0 && i < widths.length ? widths[i] : 0;
    }
  }

  /** H, V, W, X, Y, Z and the turns, their pile, and the greatest that there was in a file. */
  private static final class Place {
    final int[] now = new int[SLOTS];
    final int[] pile = new int[PILE_AT_MOST * SLOTS];
    int depth = 0;
    int deepest = 0;
    int greatestH = 0;
    int greatestV = 0;

    void beginFile() {
      beginPage();
      deepest = 0;
      greatestH = 0;
      greatestV = 0;
    }

    void beginPage() {
      for (int i = 0; i < now.length; i++) {
        now[i] = 0;
      }
      depth = 0;
    }

    int at(int slot) {
      return slot >= 0 && slot < now.length ? now[slot] : 0;
    }

    void put(int slot, int value) {
      if (slot >= 0 && slot < now.length) {
        now[slot] = value;
      }
    }

    boolean canGrow(int slot, int by) {
      long grown = (long) at(slot) + by;
      return grown >= -FARTHEST && grown <= FARTHEST;
    }

    /** A pile gives back only what was counted here, so the greatest need no other look. */
    void grow(int slot, int by) {
      put(slot, at(slot) + by);
      greatestH = Math.max(greatestH, at(H));
      greatestV = Math.max(greatestV, at(V));
    }

    void pileUp() {
      if (depth >= 0 && depth < PILE_AT_MOST) {
        System.arraycopy(now, 0, pile, depth * SLOTS, SLOTS);
        depth++;
        deepest = Math.max(deepest, depth);
      }
    }

    void pileDown() {
      if (depth > 0 && depth <= PILE_AT_MOST) {
        depth--;
        System.arraycopy(pile, depth * SLOTS, now, 0, SLOTS);
      }
    }
  }

  /** Writes a file. */
  private static final class Setter {
    final Octets file = new Octets(FILE_ROW);
    final Place place = new Place();
    final boolean[] defined = new boolean[FONTS_AT_MOST];
    int magnification = 1000;
    int pages = 0;
    boolean fileIsOpen = false;
    boolean pageIsOpen = false;
    int lastPage = -1;
    int tail = -1;
    int fontAtHand = -1;

    private boolean hasRoom(int more) {
      return file.size + more <= FILE_AT_MOST;
    }

    int magnifyNext(int m) {
      if (m < 1 || m > MAGNIFICATION_AT_MOST) {
        return OUTSIDE;
      }
      if (fileIsOpen) {
        return NOT_NOW;
      }
      magnification = m;
      return DONE;
    }

    int beginPage(int count) {
      if (pageIsOpen) {
        return NOT_NOW;
      }
      if (fileIsOpen && (pages >= PAGES_AT_MOST || !hasRoom(PAGE_BYTES))) {
        return NO_ROOM;
      }
      if (!fileIsOpen) {
        beginFile();
      }
      int start = file.size;
      file.add(PAGE_BEGINS);
      file.addNumber(count, 4);
      for (int k = 1; k < COUNTS; k++) {
        file.addNumber(0, 4);
      }
      file.addNumber(lastPage, 4);
      lastPage = start;
      pageIsOpen = true;
      fontAtHand = -1;
      place.beginPage();
      pages++;
      return pages - 1;
    }

    private void beginFile() {
      file.size = 0;
      file.add(HEAD);
      file.add(FORM);
      addScale();
      file.add(0);
      for (int i = 0; i < defined.length; i++) {
        defined[i] = false;
      }
      place.beginFile();
      fileIsOpen = true;
      pages = 0;
      lastPage = -1;
      tail = -1;
    }

    private void addScale() {
      file.addNumber(NUMERATOR, 4);
      file.addNumber(DENOMINATOR, 4);
      file.addNumber(magnification, 4);
    }

    int takeFont(Fonts fonts, int number) {
      int font = fonts.withNumber(number);
      if (font < 0) {
        return UNKNOWN;
      }
      if (!pageIsOpen) {
        return NOT_NOW;
      }
      if (font == fontAtHand) {
        return DONE;
      }
      boolean isShort = number < FONT_1 - FONT_0;
      int bytes = (isShort ? 1 : 2) + (isDefined(font) ? 0 : DEFINE_BYTES);
      if (!hasRoom(bytes)) {
        return NO_ROOM;
      }
      if (!isDefined(font)) {
        addDefinition(fonts, font);
        markDefined(font);
      }
      if (isShort) {
        file.add(FONT_0 + number);
      } else {
        file.add(FONT_1);
        file.add(number);
      }
      fontAtHand = font;
      return DONE;
    }

    private boolean isDefined(int font) {
      return font >= 0 && font < defined.length && defined[font];
    }

    private void markDefined(int font) {
      if (font >= 0 && font < defined.length) {
        defined[font] = true;
      }
    }

    private void addDefinition(Fonts fonts, int font) {
      file.add(DEFINE_1);
      file.add(fonts.numberOf(font));
      file.addNumber(fonts.checkOf(font), 4);
      file.addNumber(FONT_SCALE, 4);
      file.addNumber(FONT_SCALE, 4);
      file.add(0);
      file.add(0);
    }

    int putSign(Fonts fonts, int sign, boolean stays) {
      if (!isOctet(sign)) {
        return OUTSIDE;
      }
      if (!pageIsOpen || fontAtHand < 0) {
        return NOT_NOW;
      }
      int by = stays ? 0 : fonts.widthOf(fontAtHand, sign);
      if (!place.canGrow(H, by)) {
        return OUTSIDE;
      }
      boolean isShort = sign < SET_1 && !stays;
      if (!hasRoom(isShort ? 1 : 2)) {
        return NO_ROOM;
      }
      if (!isShort) {
        file.add(stays ? PUT_1 : SET_1);
      }
      file.add(sign);
      place.grow(H, by);
      return DONE;
    }

    int putRule(int height, int width, boolean stays) {
      if (!isLength(height) || !isLength(width)) {
        return OUTSIDE;
      }
      if (!pageIsOpen) {
        return NOT_NOW;
      }
      int by = stays ? 0 : width;
      if (!place.canGrow(H, by)) {
        return OUTSIDE;
      }
      if (!hasRoom(RULE_BYTES)) {
        return NO_ROOM;
      }
      file.add(stays ? PUT_RULE : SET_RULE);
      file.addNumber(height, 4);
      file.addNumber(width, 4);
      place.grow(H, by);
      return DONE;
    }

    int go(boolean upright, int by) {
      if (!isLength(by)) {
        return OUTSIDE;
      }
      if (!pageIsOpen) {
        return NOT_NOW;
      }
      int axis = upright ? V : H;
      if (!place.canGrow(axis, by)) {
        return OUTSIDE;
      }
      if (by == 0) {
        return DONE;
      }
      int first = upright ? Y : W;
      boolean isFirst = place.at(first) == by;
      boolean isKnown = isFirst || place.at(first + 1) == by;
      if (!hasRoom(isKnown ? 1 : 1 + bytesOf(by))) {
        return NO_ROOM;
      }
      int command = upright ? UPRIGHT_Y : ALONG_W;
      if (isKnown) {
        file.add(isFirst ? command : command + REMEMBERED_FORMS);
      } else {
        addNewMove(first, upright ? TURN_UPRIGHT : TURN_ALONG, command, by);
      }
      place.grow(axis, by);
      return DONE;
    }

    /** The two take turns, for the one that has just become another is the younger. */
    private void addNewMove(int first, int turn, int command, int by) {
      int second = place.at(turn);
      int bytes = bytesOf(by);
      file.add(command + REMEMBERED_FORMS * second + bytes);
      file.addNumber(by, bytes);
      place.put(first + second, by);
      place.put(turn, 1 - second);
    }

    /** No move that may be told needs a fourth byte. */
    private static int bytesOf(int by) {
      if (by >= -(1 << 7) && by < 1 << 7) {
        return 1;
      }
      return by >= -(1 << 15) && by < 1 << 15 ? 2 : 3;
    }

    int pileUp() {
      if (!pageIsOpen) {
        return NOT_NOW;
      }
      if (place.depth >= PILE_AT_MOST || !hasRoom(1)) {
        return NO_ROOM;
      }
      file.add(PILE_PUT);
      place.pileUp();
      return place.depth;
    }

    int pileDown() {
      if (!pageIsOpen || place.depth == 0) {
        return NOT_NOW;
      }
      if (!hasRoom(1)) {
        return NO_ROOM;
      }
      file.add(PILE_TAKE);
      place.pileDown();
      return place.depth;
    }

    int putSpecial(long bytes, int n) {
      if (n < 1 || n > 8) {
        return OUTSIDE;
      }
      if (!pageIsOpen) {
        return NOT_NOW;
      }
      if (!hasRoom(2 + n)) {
        return NO_ROOM;
      }
      file.add(SPECIAL_1);
      file.add(n);
      file.addNumber(bytes, n);
      return DONE;
    }

    int endPage() {
      if (!pageIsOpen || place.depth > 0) {
        return NOT_NOW;
      }
      if (!hasRoom(1)) {
        return NO_ROOM;
      }
      file.add(PAGE_ENDS);
      pageIsOpen = false;
      return pages;
    }

    int finishFile(Fonts fonts) {
      if (!fileIsOpen || pageIsOpen) {
        return NOT_NOW;
      }
      tail = file.size;
      addTail();
      addDefinitions(fonts);
      file.add(LAST);
      file.addNumber(tail, 4);
      file.add(FORM);
      int fillers = FILLERS_AT_LEAST + (-file.size & 3);
      for (int i = 0; i < fillers; i++) {
        file.add(FILLER);
      }
      fileIsOpen = false;
      return file.size;
    }

    private void addTail() {
      file.add(TAIL);
      file.addNumber(lastPage, 4);
      addScale();
      file.addNumber(place.greatestV, 4);
      file.addNumber(place.greatestH, 4);
      file.addNumber(place.deepest, 2);
      file.addNumber(pages, 2);
    }

    private void addDefinitions(Fonts fonts) {
      int font = definedBehind(fonts, -1);
      for (int i = 0; i < FONTS_AT_MOST && font >= 0; i++) {
        addDefinition(fonts, font);
        font = definedBehind(fonts, fonts.numberOf(font));
      }
    }

    /** Of the fonts that the file has, the one with the next higher number; -1 if none. */
    private int definedBehind(Fonts fonts, int number) {
      int next = -1;
      for (int font = 0; font < fonts.size; font++) {
        boolean isBehind = isDefined(font) && fonts.numberOf(font) > number;
        if (isBehind && (next < 0 || fonts.numberOf(font) < fonts.numberOf(next))) {
          next = font;
        }
      }
      return next;
    }

    /** Goes by the bytes alone, so that it would see a pointer that was written wrongly. */
    boolean findsAllPages() {
      if (fileIsOpen || tail < 0) {
        return true;
      }
      int at = file.number(tail + 1, 4);
      int found = 0;
      while (found <= PAGES_AT_MOST && file.has(at) && file.at(at) == PAGE_BEGINS) {
        found++;
        at = file.number(at + BACK_POINTER, 4);
      }
      return at == -1 && found == pages;
    }
  }

  /** What stands on the pages that were read. */
  private static final class Items {
    final int[] row = new int[ITEMS_AT_MOST * ITEM_SLOTS];
    int size = 0;

    boolean isFull() {
      return size >= ITEMS_AT_MOST;
    }

    int at(int item, int slot) {
      int i = item * ITEM_SLOTS + slot;
      return i >= 0 && i < row.length ? row[i] : 0;
    }

    void add(int page, int kind, Place place, int first, int second) {
      int i = size * ITEM_SLOTS;
      if (i >= 0 && i <= row.length - ITEM_SLOTS) {
        row[i + ITEM_PAGE] = page;
        row[i + ITEM_KIND] = kind;
        row[i + ITEM_H] = place.at(H);
        row[i + ITEM_V] = place.at(V);
        row[i + ITEM_FIRST] = first;
        row[i + ITEM_SECOND] = second;
        size++;
      }
    }
  }

  /** Reads bytes, command by command, up to the first fault. */
  private static final class Interpreter {
    final Items items = new Items();
    final Place place = new Place();
    final int[] counts = new int[PAGES_AT_MOST * COUNTS];
    final int[] told = new int[SIGNS];
    int fault = 0;
    int pages = 0;
    int magnification = 1000;
    int state = AT_HEAD;
    int next = 0;
    int fontAtHand = -1;
    int lastPage = -1;
    int tail = -1;

    int interpret(Octets source, Fonts fonts) {
      forget();
      int at = 0;
      // Each command has a byte at least, so one look more than there are bytes finds the end.
      for (int looks = 0; looks <= source.size && state != AT_END; looks++) {
        fault = faultOfForm(source, at);
        if (fault == 0) {
          fault = obey(source, fonts, at);
        }
        if (fault != 0) {
          return -1 - at;
        }
        at = next;
      }
      return pages;
    }

    private void forget() {
      items.size = 0;
      place.beginFile();
      for (int i = 0; i < told.length; i++) {
        told[i] = -1;
      }
      fault = 0;
      pages = 0;
      state = AT_HEAD;
      fontAtHand = -1;
      lastPage = -1;
      tail = -1;
    }

    int countOf(int page, int k) {
      int i = page * COUNTS + k;
      return i >= 0 && i < counts.length ? counts[i] : 0;
    }

    /** What every command is asked first: may it stand there, and is it all there. */
    private int faultOfForm(Octets source, int at) {
      if (!source.has(at)) {
        return FAULT_LENGTH;
      }
      if (!mayStand(source.at(at))) {
        return FAULT_ORDER;
      }
      int length = Commands.lengthOf(source, at);
      if (length < 0) {
        return FAULT_LENGTH;
      }
      next = at + length;
      return 0;
    }

    private boolean mayStand(int command) {
      boolean isAnywhere = command == NOTHING || command >= DEFINE_1 && command < HEAD;
      switch (state) {
        case AT_HEAD:
          return command == HEAD;
        case BETWEEN_PAGES:
          return isAnywhere || command == PAGE_BEGINS || command == TAIL;
        case ON_PAGE:
          return command < HEAD && command != PAGE_BEGINS;
        default:
          return isAnywhere || command == LAST;
      }
    }

    private int obey(Octets source, Fonts fonts, int at) {
      int command = source.at(at);
      if (command < NOTHING) {
        boolean isRule = command == SET_RULE || command == PUT_RULE;
        return isRule ? obeyRule(source, command, at) : obeySign(source, fonts, command, at);
      }
      if (command < ALONG_1) {
        return obeyFrame(source, command, at);
      }
      if (command < FONT_0) {
        return obeyMove(source, command, at);
      }
      if (command < SPECIAL_1) {
        return obeyFont(source, command, at);
      }
      if (command < DEFINE_1) {
        return obeySpecial(source, command, at);
      }
      if (command < HEAD) {
        return obeyDefinition(source, fonts, command, at);
      }
      if (command == HEAD) {
        return obeyHead(source, at);
      }
      return command == TAIL ? obeyTail(source, at) : obeyLast(source, at);
    }

    private int obeySign(Octets source, Fonts fonts, int command, int at) {
      if (fontAtHand < 0) {
        return FAULT_FONT;
      }
      int sign = command < SET_1 ? command : Commands.numberOf(source, command, at);
      if (!isOctet(sign)) {
        return FAULT_SIGN;
      }
      int by = command >= PUT_1 ? 0 : fonts.widthOf(fontTold(fontAtHand), sign);
      if (items.isFull() || !place.canGrow(H, by)) {
        return FAULT_LIMIT;
      }
      items.add(pages - 1, SIGN, place, fontAtHand, sign);
      place.grow(H, by);
      return 0;
    }

    private int obeyRule(Octets source, int command, int at) {
      int height = source.number(at + 1, 4);
      int width = source.number(at + 5, 4);
      boolean stands = height > 0 && width > 0;
      int by = command == PUT_RULE ? 0 : width;
      if (stands && items.isFull() || !place.canGrow(H, by)) {
        return FAULT_LIMIT;
      }
      if (stands) {
        items.add(pages - 1, RULE, place, height, width);
      }
      place.grow(H, by);
      return 0;
    }

    private int obeyFrame(Octets source, int command, int at) {
      switch (command) {
        case PAGE_BEGINS:
          return obeyPageBegins(source, at);
        case PAGE_ENDS:
          return obeyPageEnds();
        case PILE_PUT:
          return obeyPilePut();
        case PILE_TAKE:
          return obeyPileTake();
        default:
          return 0;
      }
    }

    private int obeyPageBegins(Octets source, int at) {
      if (source.number(at + BACK_POINTER, 4) != lastPage) {
        return FAULT_POINTER;
      }
      if (pages >= PAGES_AT_MOST) {
        return FAULT_LIMIT;
      }
      for (int k = 0; k < COUNTS; k++) {
        int i = pages * COUNTS + k;
        if (i >= 0 && i < counts.length) {
          counts[i] = source.number(at + 1 + 4 * k, 4);
        }
      }
      pages++;
      lastPage = at;
      fontAtHand = -1;
      place.beginPage();
      state = ON_PAGE;
      return 0;
    }

    private int obeyPageEnds() {
      if (place.depth > 0) {
        return FAULT_PILE;
      }
      state = BETWEEN_PAGES;
      return 0;
    }

    private int obeyPilePut() {
      if (place.depth >= PILE_AT_MOST) {
        return FAULT_PILE_FULL;
      }
      place.pileUp();
      return 0;
    }

    private int obeyPileTake() {
      if (place.depth == 0) {
        return FAULT_PILE;
      }
      place.pileDown();
      return 0;
    }

    private int obeyMove(Octets source, int command, int at) {
      boolean upright = command >= UPRIGHT_1;
      int nth = Commands.nthMove(command);
      int bytes = Commands.bytesOfMove(nth);
      int by = bytes > 0 ? source.signed(at + 1, bytes) : 0;
      if (nth >= REMEMBERED) {
        int slot = (upright ? Y : W) + (nth - REMEMBERED) / REMEMBERED_FORMS;
        if (bytes > 0) {
          place.put(slot, by);
        }
        by = place.at(slot);
      }
      int axis = upright ? V : H;
      if (!place.canGrow(axis, by)) {
        return FAULT_LIMIT;
      }
      place.grow(axis, by);
      return 0;
    }

    private int obeyFont(Octets source, int command, int at) {
      int number = command < FONT_1 ? command - FONT_0 : Commands.numberOf(source, command, at);
      if (fontTold(number) < 0) {
        return FAULT_FONT;
      }
      fontAtHand = number;
      return 0;
    }

    /** Which font the file has told by this number; -1 if none. */
    private int fontTold(int number) {
      return number >= 0 && number < told.length ? told[number] : -1;
    }

    private int obeySpecial(Octets source, int command, int at) {
      if (items.isFull()) {
        return FAULT_LIMIT;
      }
      int bytes = Commands.numberOf(source, command, at);
      items.add(pages - 1, SPECIAL, place, bytes, next - bytes);
      return 0;
    }

    private int obeyDefinition(Octets source, Fonts fonts, int command, int at) {
      int number = Commands.numberOf(source, command, at);
      int font = fonts.withCheck(source.number(at + 1 + Commands.bytesOfNumber(command), 4));
      if (number < 0 || number >= told.length || font < 0) {
        return FAULT_FONT;
      }
      boolean isNew = told[number] < 0;
      if (isNew && state == BEHIND_TAIL || !isNew && told[number] != font) {
        return FAULT_FONT;
      }
      told[number] = font;
      return 0;
    }

    private int obeyHead(Octets source, int at) {
      magnification = source.number(at + 10, 4);
      boolean isAsTold = source.at(at + 1) == FORM && hasScale(source, at + 2)
          && magnification >= 1 && magnification <= MAGNIFICATION_AT_MOST;
      if (!isAsTold) {
        return FAULT_NUMBER;
      }
      state = BETWEEN_PAGES;
      return 0;
    }

    private boolean hasScale(Octets source, int at) {
      return source.number(at, 4) == NUMERATOR
          && source.number(at + 4, 4) == DENOMINATOR
          && source.number(at + 8, 4) == magnification;
    }

    private int obeyTail(Octets source, int at) {
      if (source.number(at + 1, 4) != lastPage) {
        return FAULT_POINTER;
      }
      boolean isAsTold = hasScale(source, at + 5)
          && source.number(at + 17, 4) == place.greatestV
          && source.number(at + 21, 4) == place.greatestH
          && source.number(at + 25, 2) == place.deepest
          && source.number(at + 27, 2) == pages;
      if (!isAsTold) {
        return FAULT_NUMBER;
      }
      tail = at;
      state = BEHIND_TAIL;
      return 0;
    }

    private int obeyLast(Octets source, int at) {
      if (source.number(at + 1, 4) != tail) {
        return FAULT_POINTER;
      }
      if (source.at(at + 5) != FORM) {
        return FAULT_NUMBER;
      }
      if (source.size - next < FILLERS_AT_LEAST || (source.size & 3) != 0) {
        return FAULT_FILLER;
      }
      for (int i = next; i < source.size; i++) {
        if (source.at(i) != FILLER) {
          return FAULT_FILLER;
        }
      }
      state = AT_END;
      return 0;
    }
  }

  /** How commands are laid out in bytes. */
  private static final class Commands {
    /** How many bytes the command has in all; -1 if they are not all there, or can't be. */
    static int lengthOf(Octets source, int at) {
      int command = source.at(at);
      int left = source.size - at;
      int plain = 1 + plainBytes(command);
      if (plain > left) {
        return -1;
      }
      int more = moreBytes(source, command, at);
      return more < 0 || more > left - plain ? -1 : plain + more;
    }

    /** How many bytes follow a command, but for those whose number it tells itself. */
    private static int plainBytes(int command) {
      if (command < SET_1) {
        return 0;
      }
      if (command < NOTHING) {
        boolean isRule = command == SET_RULE || command == PUT_RULE;
        return isRule ? RULE_BYTES - 1 : bytesOfNumber(command);
      }
      if (command < ALONG_1) {
        return command == PAGE_BEGINS ? PAGE_BYTES - 1 : 0;
      }
      if (command < FONT_0) {
        return bytesOfMove(nthMove(command));
      }
      if (command < FONT_1) {
        return 0;
      }
      if (command < HEAD) {
        return bytesOfNumber(command) + (command < DEFINE_1 ? 0 : DEFINE_BYTES - 2);
      }
      if (command == HEAD) {
        return HEAD_BYTES - 1;
      }
      return (command == TAIL ? TAIL_BYTES : LAST_BYTES) - 1;
    }

    /** How many bytes a command tells to follow; below 0 if that can't be. */
    private static int moreBytes(Octets source, int command, int at) {
      if (command < SPECIAL_1 || command > HEAD) {
        return 0;
      }
      if (command == HEAD) {
        return source.at(at + HEAD_BYTES - 1);
      }
      if (command < DEFINE_1) {
        return numberOf(source, command, at);
      }
      int lengths = at + bytesOfNumber(command) + DEFINE_BYTES - 3;
      return source.at(lengths) + source.at(lengths + 1);
    }

    /** The number u1, u2, u3 or s4 of a sign, a font, a special or a definition. */
    static int numberOf(Octets source, int command, int at) {
      return source.number(at + 1, bytesOfNumber(command));
    }

    /** Such commands come by fours, with one byte more each. */
    static int bytesOfNumber(int command) {
      if (command < SET_RULE) {
        return command - SET_1 + 1;
      }
      if (command < PUT_RULE) {
        return command - PUT_1 + 1;
      }
      return ((command - FONT_1) & 3) + 1;
    }

    /** 0 .. 3: a plain move; then W or Y as it is, or becoming s1 .. s4; then X or Z likewise. */
    static int nthMove(int command) {
      return command - (command < UPRIGHT_1 ? ALONG_1 : UPRIGHT_1);
    }

    static int bytesOfMove(int nth) {
      return nth < REMEMBERED ? nth + 1 : (nth - REMEMBERED) % REMEMBERED_FORMS;
    }
  }
}
