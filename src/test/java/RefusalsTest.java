import java.util.ArrayList;
import java.util.List;
import java.util.Set;
import java.util.TreeSet;
import java.util.function.Consumer;
import java.util.function.ToLongFunction;

/**
 * "REFUSALS change nothing and answer, the first that fits": every call with its edges in every
 * state. Which refusal is due is told by the document's list for that call, in its order.
 */
public final class RefusalsTest {
  private static final Due DUE = new Due();
  private static final Twins TWINS = new Twins(DUE);
  private static final int[] LENGTHS = {
    Integer.MIN_VALUE, -1000001, -1000000, -129, -1, 0, 1, 5, 32768, 1000000, 1000001
  };

  public static void main(String[] args) {
    List<Asked> calls = calls();
    int refused = 0;
    for (State state : states()) {
      for (Asked call : calls) {
        refused += ask(state, call) ? 1 : 0;
      }
    }
    DUE.holds("more than a thousand calls are refused", refused > 1000);
    DUE.end();
  }

  private static boolean ask(State state, Asked call) {
    String what = state.name + ": " + call.name;
    int due = call.rule.due(state);
    if (due < 0) {
      TWINS.refused(what, state.made, call.call, due);
      return true;
    }
    DviPages x = new DviPages();
    state.made.accept(x);
    DUE.holds(what + " is taken", call.call.applyAsLong(x) >= 0);
    return false;
  }

  /** What is known of a state; the rest can be asked. */
  private static final class State {
    final String name;
    final Consumer<DviPages> made;
    final Set<Integer> numbers = new TreeSet<>();
    final Set<Integer> checks = new TreeSet<>();
    final Set<Integer> told = new TreeSet<>();
    boolean file = false;
    boolean page = false;
    int fontAtHand = -1;
    long h = 0;
    long v = 0;
    int w = 0;
    int fonts;
    int bytes;
    int pages;
    int source;
    int pile;

    State(String name, Consumer<DviPages> made) {
      this.name = name;
      this.made = made;
      DviPages x = new DviPages();
      made.accept(x);
      fonts = x.count(0);
      bytes = x.count(1);
      pages = x.count(2);
      source = x.count(3);
      pile = x.count(6);
      if (fonts > 0) {
        numbers.addAll(Set.of(3, 0, 70, 255, 63, 64));
        checks.addAll(Set.of(77, -5, 78, 79, 80, 81));
      }
      for (int i = 7; i <= fonts; i++) {
        numbers.add(100 + i);
        checks.add(1000 + i);
      }
    }

    State inFile() {
      file = true;
      return this;
    }

    State onPage(int font, int... toldFonts) {
      file = true;
      page = true;
      fontAtHand = font;
      for (int number : toldFonts) {
        told.add(number);
      }
      return this;
    }

    State at(long nowH, long nowV, int nowW) {
      h = nowH;
      v = nowV;
      w = nowW;
      return this;
    }

    boolean hasRoom(int more) {
      return bytes + more <= 6000;
    }
  }

  private static boolean isFar(long place) {
    return Math.abs(place) > 1L << 30;
  }

  private static boolean isOutside(int length) {
    return Math.abs((long) length) > 1000000;
  }

  private static List<State> states() {
    List<State> all = new ArrayList<>();
    all.add(new State("new", Made::nothing));
    all.add(new State("fonts", Made::fonts));
    all.add(new State("forty fonts", Made::fortyFonts));
    all.add(new State("page", Made::page).onPage(-1));
    all.add(new State("busy page", Made::busyPage).onPage(3, 3));
    all.add(new State("between pages", Made::betweenPages).inFile());
    all.add(new State("finished", Made::finished));
    all.add(new State("twentieth page", Made::twentiethPage).onPage(-1));
    all.add(new State("twenty pages", Made::twentyPages).inFile());
    all.add(new State("full pile", x -> Made.pile(x, 100)).onPage(3, 3).at(600, 0, 5));
    all.add(new State("far", x -> Made.at(x, Made.FAR, -Made.FAR)).onPage(3, 3)
        .at(Made.FAR, -Made.FAR, 1000000));
    all.add(new State("far the other way", x -> Made.at(x, -Made.FAR, Made.FAR)).onPage(3, 3)
        .at(-Made.FAR, Made.FAR, -1000000));
    all.add(new State("far and full", Made::farAndFull).onPage(3, 3)
        .at(Made.FAR, -Made.FAR, 1000000));
    for (int left = 0; left <= 18; left++) {
      int n = left;
      all.add(new State("room for " + n, x -> Made.filled(x, n)).onPage(3, 3, 64, 70).at(5, 0, 5));
    }
    all.add(new State("full, one on the pile", x -> Made.filledWithPile(x, 0)).onPage(3, 3));
    for (int left : new int[] {0, 44, 45}) {
      all.add(new State("between pages, room for " + left, x -> Made.filledBetweenPages(x, left))
          .inFile());
    }
    for (int bytes : new int[] {7991, 7992, 7993, 7999, 8000}) {
      all.add(new State("to be read " + bytes, x -> Made.loaded(x, bytes)));
    }
    return all;
  }

  /** The refusal that is due in a state; 0 if the call is taken. */
  private interface Rule {
    int due(State s);
  }

  private static final class Asked {
    final String name;
    final ToLongFunction<DviPages> call;
    final Rule rule;

    Asked(String name, ToLongFunction<DviPages> call, Rule rule) {
      this.name = name;
      this.call = call;
      this.rule = rule;
    }
  }

  private static List<Asked> calls() {
    List<Asked> all = new ArrayList<>();
    addFonts(all);
    addPages(all);
    addUses(all);
    addSigns(all);
    addRules(all);
    addMoves(all);
    addPiles(all);
    addBytes(all);
    return all;
  }

  private static void addFonts(List<Asked> all) {
    int[] numbers = {Integer.MIN_VALUE, -1, 0, 1, 254, 255, 256, Integer.MAX_VALUE};
    for (int number : numbers) {
      for (int check : new int[] {77, 12345}) {
        all.add(new Asked("font(" + number + ", " + check + ")", x -> x.font(number, check),
            s -> number < 0 || number > 255 ? -2
                : s.numbers.contains(number) || s.checks.contains(check) ? -3
                : s.fonts == 40 ? -4 : 0));
      }
      for (int sign : new int[] {-1, 0, 255, 256}) {
        for (int w : new int[] {-1000001, -1000000, 1000000, 1000001}) {
          all.add(new Asked("width(" + number + ", " + sign + ", " + w + ")",
              x -> x.width(number, sign, w),
              s -> !s.numbers.contains(number) ? -1
                  : sign < 0 || sign > 255 || isOutside(w) ? -2 : 0));
        }
      }
    }
  }

  private static void addPages(List<Asked> all) {
    for (int m : new int[] {Integer.MIN_VALUE, -1, 0, 1, 32768, 32769, Integer.MAX_VALUE}) {
      all.add(new Asked("magnify(" + m + ")", x -> x.magnify(m),
          s -> m < 1 || m > 32768 ? -2 : s.file ? -3 : 0));
    }
    all.add(new Asked("begin(7)", x -> x.begin(7),
        s -> s.page ? -3 : s.file && (s.pages == 20 || !s.hasRoom(45)) ? -4 : 0));
    all.add(new Asked("end()", DviPages::end,
        s -> !s.page || s.pile > 0 ? -3 : !s.hasRoom(1) ? -4 : 0));
    all.add(new Asked("finish()", DviPages::finish, s -> !s.file || s.page ? -3 : 0));
  }

  private static void addUses(List<Asked> all) {
    for (int number : new int[] {Integer.MIN_VALUE, -1, 0, 1, 3, 63, 64, 70, 255, 256, 259}) {
      int bytes = number < 64 ? 1 : 2;
      all.add(new Asked("use(" + number + ")", x -> x.use(number),
          s -> !s.numbers.contains(number) ? -1 : !s.page ? -3 : number == s.fontAtHand ? 0
              : !s.hasRoom(bytes + (s.told.contains(number) ? 0 : 16)) ? -4 : 0));
    }
  }

  /** The widths of font 3, which is the only one that is at hand in any state. */
  private static int width(int sign) {
    return sign == 65 ? 1000000 : sign == 66 ? -1000000 : 0;
  }

  private static void addSigns(List<Asked> all) {
    int[] signs = {Integer.MIN_VALUE, -1, 0, 65, 66, 127, 128, 255, 256, Integer.MAX_VALUE};
    for (int sign : signs) {
      for (boolean stays : new boolean[] {false, true}) {
        int by = stays ? 0 : width(sign);
        int bytes = stays || sign > 127 ? 2 : 1;
        all.add(new Asked("set(" + sign + ", " + stays + ")", x -> x.set(sign, stays),
            s -> sign < 0 || sign > 255 ? -2 : !s.page || s.fontAtHand < 0 ? -3
                : isFar(s.h + by) ? -2 : !s.hasRoom(bytes) ? -4 : 0));
      }
    }
  }

  private static void addRules(List<Asked> all) {
    for (int height : new int[] {-1000001, 1000000, 1000001}) {
      for (int width : new int[] {-1000001, -1000000, -1, 0, 1, 1000000, 1000001}) {
        for (boolean stays : new boolean[] {false, true}) {
          int by = stays ? 0 : width;
          all.add(new Asked("rule(" + height + ", " + width + ", " + stays + ")",
              x -> x.rule(height, width, stays),
              s -> isOutside(height) || isOutside(width) ? -2 : !s.page ? -3
                  : isFar(s.h + by) ? -2 : !s.hasRoom(9) ? -4 : 0));
        }
      }
    }
  }

  /** The states that are short of room have W alone, and Y and Z are 0 there. */
  private static int bytesOfMove(int by, boolean isKnown) {
    return isKnown ? 1 : by >= -128 && by <= 127 ? 2 : by >= -32768 && by <= 32767 ? 3 : 4;
  }

  private static void addMoves(List<Asked> all) {
    for (int by : LENGTHS) {
      all.add(new Asked("move(false, " + by + ")", x -> x.move(false, by),
          s -> isOutside(by) ? -2 : !s.page ? -3 : isFar(s.h + by) ? -2 : by == 0 ? 0
              : !s.hasRoom(bytesOfMove(by, by == s.w)) ? -4 : 0));
      all.add(new Asked("move(true, " + by + ")", x -> x.move(true, by),
          s -> isOutside(by) ? -2 : !s.page ? -3 : isFar(s.v + by) ? -2 : by == 0 ? 0
              : !s.hasRoom(bytesOfMove(by, by == -1000000 && s.v != 0)) ? -4 : 0));
    }
  }

  private static void addPiles(List<Asked> all) {
    all.add(new Asked("push()", DviPages::push,
        s -> !s.page ? -3 : s.pile == 100 || !s.hasRoom(1) ? -4 : 0));
    all.add(new Asked("pop()", DviPages::pop,
        s -> !s.page || s.pile == 0 ? -3 : !s.hasRoom(1) ? -4 : 0));
  }

  private static void addBytes(List<Asked> all) {
    for (int n : new int[] {Integer.MIN_VALUE, -1, 0, 1, 7, 8, 9, Integer.MAX_VALUE}) {
      boolean isOutside = n < 1 || n > 8;
      all.add(new Asked("special(.., " + n + ")", x -> x.special(-1, n),
          s -> isOutside ? -2 : !s.page ? -3 : !s.hasRoom(2 + n) ? -4 : 0));
      all.add(new Asked("load(.., " + n + ")", x -> x.load(-1, n),
          s -> isOutside ? -2 : s.source + n > 8000 ? -4 : 0));
    }
    for (int what : new int[] {Integer.MIN_VALUE, -1, 0, 6, 7, Integer.MAX_VALUE}) {
      all.add(new Asked("count(" + what + ")", x -> x.count(what),
          s -> what < 0 || what > 6 ? -2 : 0));
    }
  }
}
