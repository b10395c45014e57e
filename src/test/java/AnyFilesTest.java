import java.util.Arrays;
import java.util.HashMap;
import java.util.Map;
import java.util.Random;

/** Random files, right and wrong ones: what is read agrees with the model. */
public final class AnyFilesTest {
  private static final int RUNS = 4000;
  private static final int[] CHECKS = {77, -5, 78};
  private static final long[] NUMBERS = {
    0, 1, -1, 2, 65, 127, 128, -128, 200, 255, 256, 32767, -32768, 8388607, -8388608, 1 << 29, 1 << 30,
    -(1 << 30), (1 << 30) + 1, Integer.MIN_VALUE, Integer.MAX_VALUE
  };
  private static final Due DUE = new Due();
  private static final int[] SEEN = new int[11];

  public static void main(String[] args) {
    for (int seed = 0; seed < RUNS; seed++) {
      Random random = new Random(seed);
      byte[] file = anyFile(random);
      compare("seed " + seed, file);
      for (int times = 0; times < 5; times++) {
        compare("seed " + seed + ", broken " + times, broken(random, file));
      }
    }
    for (int fault = 0; fault <= 10; fault++) {
      DUE.holds("fault " + fault + " comes often", SEEN[fault] >= 20);
    }
    DUE.end();
  }

  private static DviPages object() {
    DviPages x = new DviPages();
    for (int i = 0; i < CHECKS.length; i++) {
      x.font(100 + i, CHECKS[i]);
    }
    x.width(100, 65, 100);
    x.width(100, 200, 1000000);
    x.width(101, 65, -40);
    return x;
  }

  private static Map<Integer, int[]> widths() {
    Map<Integer, int[]> widths = new HashMap<>();
    for (int check : CHECKS) {
      widths.put(check, new int[256]);
    }
    widths.get(CHECKS[0])[65] = 100;
    widths.get(CHECKS[0])[200] = 1000000;
    widths.get(CHECKS[1])[65] = -40;
    return widths;
  }

  private static void compare(String what, byte[] file) {
    ModelReader model = new ModelReader(file, widths());
    DviPages x = object();
    SEEN[model.fault]++;
    DUE.is(what + ": read", Bytes.read(x, file), model.answer);
    DUE.is(what + ": fault", x.fault(), model.fault);
    DUE.is(what + ": pages", x.count(4), model.pages.size());
    DUE.is(what + ": items", x.count(5), model.items.size());
    for (int i = 0; i < model.items.size(); i++) {
      for (int k = 0; k < 8; k++) {
        DUE.is(what + ": item " + i + ", " + k, x.item(i, k), model.items.get(i)[k]);
      }
    }
    for (int page = 0; page < model.pages.size(); page++) {
      for (int k = 0; k < 10; k++) {
        DUE.is(what + ": count " + k, x.counted(page, k), model.pages.get(page)[k]);
      }
    }
  }

  /** A file that is right but for its numbers, most of which are small. */
  private static byte[] anyFile(Random random) {
    Bytes file = new Bytes().head(1 + random.nextInt(32768));
    int before = -1;
    int pages = random.nextInt(8) == 0 ? 18 + random.nextInt(4) : random.nextInt(4);
    int commands = random.nextInt(60) == 0 ? 700 : random.nextInt(25);
    for (int page = 0; page < pages; page++) {
      between(random, file);
      int begin = file.size();
      file.page(random.nextInt(), before);
      before = begin;
      onPage(random, file, commands);
      file.u1(140);
    }
    between(random, file);
    return new ModelReader(file.toArray(), widths()).tailFor(file).toArray();
  }

  private static void between(Random random, Bytes file) {
    for (int n = random.nextInt(3); n > 0; n--) {
      if (random.nextBoolean()) {
        file.u1(138);
      } else {
        define(random, file);
      }
    }
  }

  /** Four numbers, each for one CHECK but seldom. */
  private static int define(Random random, Bytes file) {
    int number = random.nextInt(4) * 21;
    int check = random.nextInt(200) == 0 ? random.nextInt(100) : CHECKS[number / 21 % 3];
    int n = 1 + random.nextInt(4);
    int a = random.nextInt(3);
    int l = random.nextInt(3);
    file.u1(242 + n).un(n, number).s4(check, random.nextInt(), random.nextInt()).u1(a, l);
    file.u1(new int[a + l]);
    return number;
  }

  private static void onPage(Random random, Bytes file, int commands) {
    int depth = 0;
    int font = define(random, file);
    if (random.nextInt(20) > 0) {
      file.u1(235, font);
    }
    for (int i = 0; i < commands && file.size() < 7000; i++) {
      int kind = random.nextInt(8);
      if (kind == 0) {
        define(random, file);
      } else if (kind == 1 && depth < 101) {
        int more = random.nextInt(40) == 0 ? 101 : 1;
        for (int k = 0; k < more; k++) {
          file.u1(141);
        }
        depth += more;
      } else if (kind == 2 && (depth > 0 || random.nextInt(20) == 0)) {
        file.u1(142);
        depth--;
      } else {
        anyCommand(random, file);
      }
    }
    for (; depth > 0 && random.nextInt(100) > 0; depth--) {
      file.u1(142);
    }
  }

  private static long number(Random random) {
    return random.nextInt(12) == 0 ? NUMBERS[random.nextInt(NUMBERS.length)] : random.nextInt(100);
  }

  private static void anyCommand(Random random, Bytes file) {
    int n = 1 + random.nextInt(4);
    switch (random.nextInt(7)) {
      case 0 -> file.u1(random.nextInt(128));
      case 1 -> file.u1((random.nextBoolean() ? 127 : 132) + n).un(n, number(random));
      case 2 -> file.u1(random.nextBoolean() ? 132 : 137).s4(number(random) - 5, number(random) - 5);
      case 3 -> move(random, file, random.nextBoolean() ? 143 : 157);
      case 4 -> {
        int font = define(random, file);
        if (font <= 63 && random.nextBoolean()) {
          file.u1(171 + font);
        } else {
          file.u1(234 + n).un(n, font);
        }
      }
      case 5 -> {
        int bytes = random.nextInt(5);
        file.u1(238 + n).un(n, bytes).u1(new int[bytes]);
      }
      default -> file.u1(138);
    }
  }

  private static void move(Random random, Bytes file, int first) {
    int nth = random.nextInt(14);
    int n = nth < 4 ? nth + 1 : (nth - 4) % 5;
    file.u1(first + nth).un(n, number(random));
  }

  /** Some bytes made others, put in, or left out, or the file cut short. */
  private static byte[] broken(Random random, byte[] file) {
    byte[] some = file.clone();
    for (int i = random.nextInt(3); i >= 0; i--) {
      int at = random.nextInt(some.length);
      switch (random.nextInt(4)) {
        case 0 -> some[at] = (byte) random.nextInt();
        case 1 -> some[at]++;
        case 2 -> some = Arrays.copyOf(some, Math.max(1, at));
        default -> {
          byte[] more = Arrays.copyOf(some, some.length + 1);
          System.arraycopy(some, at, more, at + 1, some.length - at);
          some = more;
        }
      }
    }
    return some;
  }
}
