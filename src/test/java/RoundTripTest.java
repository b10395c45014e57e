import java.util.ArrayDeque;
import java.util.ArrayList;
import java.util.Deque;
import java.util.List;
import java.util.Map;
import java.util.Random;
import java.util.TreeMap;

/** Random pages: each answer against a model that knows no bytes, then what is read of them. */
public final class RoundTripTest {
  private static final int RUNS = 600;
  private static final int CALLS = 300;
  private static final int[] STEPS = {0, 1, -1, 5, 127, 128, -128, -129, 32767, 32768, -32769, 1000000};
  private static final Due DUE = new Due();

  public static void main(String[] args) {
    for (int seed = 0; seed < RUNS; seed++) {
      new Run(seed).all();
    }
    DUE.end();
  }

  private static final class Run {
    final Random random;
    final String name;
    final DviPages x = new DviPages();
    final Map<Integer, int[]> widths = new TreeMap<>();
    final List<long[]> items = new ArrayList<>();
    final List<Long> counts = new ArrayList<>();
    final Deque<long[]> pile = new ArrayDeque<>();
    int magnification = 1000;
    boolean fileIsOpen = false;
    boolean pageIsOpen = false;
    int font = -1;
    long h = 0;
    long v = 0;

    Run(int seed) {
      random = new Random(seed);
      name = "seed " + seed + " ";
    }

    void all() {
      for (int call = 0; call < CALLS; call++) {
        one();
      }
      while (!pile.isEmpty()) {
        back();
      }
      if (pageIsOpen) {
        x.end();
        pageIsOpen = false;
      }
      if (fileIsOpen) {
        finish();
      }
    }

    void due(String call, long got, long want) {
      DUE.is(name + call, got, want);
    }

    int step() {
      return STEPS[random.nextInt(STEPS.length)];
    }

    void one() {
      switch (random.nextInt(16)) {
        case 0 -> newFont();
        case 1 -> newWidth();
        case 2 -> begin();
        case 3 -> use();
        case 4, 5, 6 -> sign();
        case 7 -> rule();
        case 8, 9, 10 -> move();
        case 11 -> push();
        case 12 -> back();
        case 13 -> special();
        case 14 -> endOrFinish();
        default -> magnify();
      }
    }

    void newFont() {
      int number = random.nextInt(12) * 20;
      boolean isNew = !widths.containsKey(number);
      due("font", x.font(number, -number), isNew ? widths.size() + 1 : -3);
      if (isNew) {
        widths.put(number, new int[256]);
      }
    }

    /** A file is read with the widths of later: in an open one they stay as they are. */
    void newWidth() {
      int number = random.nextInt(12) * 20;
      int sign = random.nextInt(4) * 80;
      int w = step();
      if (!fileIsOpen) {
        boolean isThere = widths.containsKey(number);
        due("width", x.width(number, sign, w), isThere ? 1 : -1);
        if (isThere) {
          widths.get(number)[sign] = w;
        }
      }
    }

    void begin() {
      if (pageIsOpen) {
        due("begin", x.begin(1), -3);
        return;
      }
      if (!fileIsOpen) {
        items.clear();
        counts.clear();
      }
      int count = random.nextInt();
      if (counts.size() == 20) {
        due("begin", x.begin(count), -4);
        return;
      }
      due("begin", x.begin(count), counts.size());
      counts.add((long) count);
      fileIsOpen = true;
      pageIsOpen = true;
      font = -1;
      h = 0;
      v = 0;
    }

    void use() {
      int number = random.nextInt(12) * 20;
      if (!widths.containsKey(number)) {
        due("use", x.use(number), -1);
      } else if (!pageIsOpen) {
        due("use", x.use(number), -3);
      } else {
        due("use", x.use(number), 1);
        font = number;
      }
    }

    void stand(long kind, long first, long second) {
      items.add(new long[] {counts.size() - 1, kind, h, v, first, second,
          Math.floorDiv(h * magnification, 1000L), Math.floorDiv(v * magnification, 1000L)});
    }

    void sign() {
      int sign = random.nextInt(4) * 80;
      boolean stays = random.nextInt(3) == 0;
      boolean can = pageIsOpen && font >= 0;
      due("set", x.set(sign, stays), can ? 1 : -3);
      if (can) {
        stand(0, font, sign);
        h += stays ? 0 : widths.get(font)[sign];
      }
    }

    void rule() {
      int height = step();
      int width = step();
      boolean stays = random.nextBoolean();
      due("rule", x.rule(height, width, stays), pageIsOpen ? 1 : -3);
      if (pageIsOpen) {
        if (height > 0 && width > 0) {
          stand(1, height, width);
        }
        h += stays ? 0 : width;
      }
    }

    void move() {
      boolean upright = random.nextBoolean();
      int by = step();
      due("move", x.move(upright, by), pageIsOpen ? 1 : -3);
      if (pageIsOpen) {
        h += upright ? 0 : by;
        v += upright ? by : 0;
      }
    }

    void push() {
      if (pageIsOpen) {
        pile.push(new long[] {h, v});
      }
      due("push", x.push(), pageIsOpen ? pile.size() : -3);
      due("pile", x.count(6), pile.size());
    }

    void back() {
      boolean can = !pile.isEmpty();
      if (can) {
        long[] place = pile.pop();
        h = place[0];
        v = place[1];
      }
      due("pop", x.pop(), can ? pile.size() : -3);
    }

    /** The model knows no bytes, but where the next ones come is what count(1) says. */
    void special() {
      int n = 1 + random.nextInt(8);
      long bytes = random.nextLong();
      int before = x.count(1);
      due("special", x.special(bytes, n), pageIsOpen ? 1 : -3);
      if (pageIsOpen) {
        stand(2, n, before + 2);
        for (int i = 0; i < n; i++) {
          due("octet", x.octet(before + 2 + i), bytes >> (8 * (n - 1 - i)) & 255);
        }
      }
    }

    void endOrFinish() {
      boolean can = pageIsOpen && pile.isEmpty();
      due("end", x.end(), can ? counts.size() : -3);
      if (can) {
        pageIsOpen = false;
      }
      if (fileIsOpen && !pageIsOpen && random.nextInt(3) == 0) {
        finish();
      }
    }

    void magnify() {
      int m = 1 + random.nextInt(3000);
      due("magnify", x.magnify(m), fileIsOpen ? -3 : 1);
      if (!fileIsOpen) {
        magnification = m;
      }
    }

    void finish() {
      int size = x.finish();
      due("finish", size, x.count(1));
      fileIsOpen = false;
      due("check", x.check(), 1);
      due("loop", x.loop(), size);
      due("read", x.read(), counts.size());
      due("fault", x.fault(), 0);
      due("items", x.count(5), items.size());
      for (int i = 0; i < items.size(); i++) {
        for (int what = 0; what < 8; what++) {
          due("item " + i + ", " + what, x.item(i, what), items.get(i)[what]);
        }
      }
      for (int page = 0; page < counts.size(); page++) {
        due("counted", x.counted(page, 0), counts.get(page));
      }
    }
  }
}
