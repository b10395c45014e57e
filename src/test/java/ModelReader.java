import java.util.ArrayDeque;
import java.util.ArrayList;
import java.util.Deque;
import java.util.HashMap;
import java.util.List;
import java.util.Map;

/** READ as the document tells it, with no thought of room or speed: what DviPages must agree with. */
final class ModelReader {
  private static final long FAR = 1L << 30;

  /** A fault ends the reading wherever it is met. */
  private static final class Fault extends RuntimeException {
    private static final long serialVersionUID = 1;
    final int number;

    Fault(int number) {
      super("fault " + number);
      this.number = number;
    }
  }

  private enum Part { FIRST, PAGES, PAGE, BEHIND, OVER }

  private final byte[] bytes;
  private final Map<Integer, int[]> widthsOfChecks;
  final List<long[]> items = new ArrayList<>();
  final List<long[]> pages = new ArrayList<>();
  int fault = 0;
  int answer;

  private final Map<Long, Integer> told = new HashMap<>();
  private final Deque<long[]> pile = new ArrayDeque<>();
  private Part part = Part.FIRST;
  private int at = 0;
  private long magnification = 0;
  private long lastPage = -1;
  private long tail = -1;
  private long font = -1;
  private long[] place = new long[6];
  private long greatestH = 0;
  private long greatestV = 0;
  private int deepest = 0;

  ModelReader(byte[] bytes, Map<Integer, int[]> widthsOfChecks) {
    this.bytes = bytes;
    this.widthsOfChecks = widthsOfChecks;
    int begin = 0;
    try {
      while (part != Part.OVER) {
        begin = at;
        command();
      }
      answer = pages.size();
    } catch (Fault e) {
      fault = e.number;
      answer = -1 - begin;
    }
  }

  private static void unless(boolean isSo, int fault) {
    if (!isSo) {
      throw new Fault(fault);
    }
  }

  private void skip(long n) {
    unless(n >= 0 && n <= bytes.length - at, 2);
    at += (int) n;
  }

  private long unsigned(int n) {
    skip(n);
    long number = 0;
    for (int i = at - n; i < at; i++) {
      number = number * 256 + (bytes[i] & 255);
    }
    return number;
  }

  private long signed(int n) {
    long number = unsigned(n);
    long half = 1L << (8 * n - 1);
    return number < half ? number : number - 2 * half;
  }

  /** u1, u2, u3 or s4. */
  private long which(int n) {
    return n < 4 ? unsigned(n) : signed(n);
  }

  private long[] signedFours(int n) {
    long[] numbers = new long[n];
    for (int i = 0; i < n; i++) {
      numbers[i] = signed(4);
    }
    return numbers;
  }

  private void command() {
    unless(at < bytes.length, 2);
    int begin = at;
    int c = bytes[at] & 255;
    unless(mayStand(c), 1);
    at++;
    if (c <= 127) {
      sign(c, true);
    } else if (c <= 131 || c >= 133 && c <= 136) {
      sign(which(c <= 131 ? c - 127 : c - 132), c <= 131);
    } else if (c == 132 || c == 137) {
      rule(signed(4), signed(4), c == 132);
    } else if (c == 139) {
      page(begin);
    } else if (c >= 140 && c <= 142) {
      pileOrEnd(c);
    } else if (c >= 143 && c <= 156) {
      move(c - 143, 0);
    } else if (c >= 157 && c <= 170) {
      move(c - 157, 1);
    } else if (c >= 171 && c <= 238) {
      long number = c <= 234 ? c - 171 : which(c - 234);
      unless(told.containsKey(number), 3);
      font = number;
    } else if (c >= 239 && c <= 242) {
      special(which(c - 238));
    } else if (c >= 243 && c <= 246) {
      definition(c - 242);
    } else if (c == 247) {
      head();
    } else if (c == 248) {
      tail(begin);
    } else if (c == 249) {
      last();
    }
    greatestH = Math.max(greatestH, place[0]);
    greatestV = Math.max(greatestV, place[1]);
  }

  private boolean mayStand(int c) {
    boolean isFiller = c == 138 || c >= 243 && c <= 246;
    return switch (part) {
      case FIRST -> c == 247;
      case PAGES -> isFiller || c == 139 || c == 248;
      case PAGE -> c <= 246 && c != 139;
      default -> isFiller || c == 249;
    };
  }

  private void stand(int kind, long first, long second) {
    unless(items.size() < 600, 9);
    items.add(new long[] {pages.size() - 1, kind, place[0], place[1], first, second,
        Math.floorDiv(place[0] * magnification, 1000L), Math.floorDiv(place[1] * magnification, 1000L)});
  }

  /** A thing that stands is taken back if it leads too far. */
  private void grow(int axis, long by, boolean hasStood) {
    if (Math.abs(place[axis] + by) > FAR) {
      if (hasStood) {
        items.remove(items.size() - 1);
      }
      throw new Fault(9);
    }
    place[axis] += by;
  }

  private void sign(long number, boolean goes) {
    unless(font >= 0, 3);
    unless(number >= 0 && number <= 255, 4);
    stand(0, font, number);
    grow(0, goes ? widthsOfChecks.get(told.get(font))[(int) number] : 0, true);
  }

  private void rule(long height, long width, boolean goes) {
    boolean stands = height > 0 && width > 0;
    if (stands) {
      stand(1, height, width);
    }
    grow(0, goes ? width : 0, stands);
  }

  private void special(long n) {
    int from = at;
    skip(n);
    stand(2, n, from);
  }

  private void page(int begin) {
    long[] counts = signedFours(10);
    unless(signed(4) == lastPage, 7);
    unless(pages.size() < 20, 9);
    pages.add(counts);
    lastPage = begin;
    place = new long[6];
    pile.clear();
    font = -1;
    part = Part.PAGE;
  }

  private void pileOrEnd(int c) {
    if (c == 140) {
      unless(pile.isEmpty(), 5);
      part = Part.PAGES;
    } else if (c == 141) {
      unless(pile.size() < 100, 6);
      pile.push(place.clone());
      deepest = Math.max(deepest, pile.size());
    } else {
      unless(!pile.isEmpty(), 5);
      place = pile.pop();
    }
  }

  /** place: H, V, W, X, Y, Z. */
  private void move(int nth, int axis) {
    if (nth < 4) {
      grow(axis, signed(nth + 1), false);
      return;
    }
    int remembered = 2 + 2 * axis + (nth < 9 ? 0 : 1);
    int n = nth < 9 ? nth - 4 : nth - 9;
    if (n > 0) {
      place[remembered] = signed(n);
    }
    grow(axis, place[remembered], false);
  }

  private void definition(int n) {
    long number = which(n);
    int check = (int) signed(4);
    signedFours(2);
    skip(unsigned(1) + unsigned(1));
    unless(number >= 0 && number <= 255 && widthsOfChecks.containsKey(check), 3);
    Integer before = told.get(number);
    unless(before == null ? part != Part.BEHIND : before == check, 3);
    told.put(number, check);
  }

  private void head() {
    long form = unsigned(1);
    long[] scale = signedFours(3);
    skip(unsigned(1));
    unless(form == 2 && scale[0] == 25400000 && scale[1] == 473628672, 8);
    unless(scale[2] >= 1 && scale[2] <= 32768, 8);
    magnification = scale[2];
    part = Part.PAGES;
  }

  private void tail(int begin) {
    long[] numbers = signedFours(6);
    long most = unsigned(2);
    long howMany = unsigned(2);
    unless(numbers[0] == lastPage, 7);
    unless(numbers[1] == 25400000 && numbers[2] == 473628672 && numbers[3] == magnification, 8);
    unless(numbers[4] == greatestV && numbers[5] == greatestH, 8);
    unless(most == deepest && howMany == pages.size(), 8);
    tail = begin;
    part = Part.BEHIND;
  }

  private void last() {
    long says = signed(4);
    long form = unsigned(1);
    unless(says == tail, 7);
    unless(form == 2, 8);
    unless(bytes.length - at >= 4 && bytes.length % 4 == 0, 10);
    for (int i = at; i < bytes.length; i++) {
      unless((bytes[i] & 255) == 223, 10);
    }
    part = Part.OVER;
  }

  /** What a tail right here has to say. */
  Bytes tailFor(Bytes file) {
    int begin = file.size();
    return file.tail((int) lastPage, (int) magnification, (int) greatestV, (int) greatestH, deepest,
        pages.size()).last(begin);
  }
}
