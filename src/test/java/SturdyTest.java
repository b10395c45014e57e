import java.util.Arrays;
import java.util.Random;

/** Any arguments in any state, any bytes: nothing is thrown but by octet, and answers agree. */
public final class SturdyTest {
  private static final Due DUE = new Due();
  private static final int[] EDGES = {
    Integer.MIN_VALUE, Integer.MIN_VALUE + 1, -1000001, -1000000, -129, -2, -1, 0, 1, 2, 3, 7, 8, 9, 19,
    20, 39, 40, 63, 64, 99, 100, 127, 128, 255, 256, 599, 600, 6000, 8000, 32768, 32769, 1000000,
    1000001, Integer.MAX_VALUE - 1, Integer.MAX_VALUE
  };

  public static void main(String[] args) {
    for (int seed = 0; seed < 1000; seed++) {
      anyCalls(new Random(seed));
    }
    for (int seed = 0; seed < 2000; seed++) {
      brokenFile(new Random(seed));
    }
    DUE.end();
  }

  private static int edge(Random random) {
    return random.nextInt(3) == 0 ? random.nextInt(256) : EDGES[random.nextInt(EDGES.length)];
  }

  private static void anyCalls(Random random) {
    DviPages x = new DviPages();
    for (int call = 0; call < 2000; call++) {
      try {
        anyCall(x, random);
      } catch (RuntimeException e) {
        DUE.is("a call threw", e.toString(), "nothing");
      }
    }
    agrees(x);
  }

  private static void anyCall(DviPages x, Random random) {
    int a = edge(random);
    int b = edge(random);
    switch (random.nextInt(24)) {
      case 0 -> x.font(a, b);
      case 1 -> x.width(a, b, edge(random));
      case 2 -> x.magnify(a);
      case 3 -> x.begin(a);
      case 4 -> x.use(a);
      case 5 -> x.set(a, random.nextBoolean());
      case 6 -> x.rule(a, b, random.nextBoolean());
      case 7 -> x.move(random.nextBoolean(), a);
      case 8 -> x.push();
      case 9 -> x.pop();
      case 10 -> x.special(random.nextLong(), random.nextInt(10));
      case 11 -> x.end();
      case 12 -> x.finish();
      case 13 -> octet(x, a);
      case 14 -> x.load(random.nextLong(), random.nextInt(10));
      case 15 -> x.loop();
      case 16 -> x.drop();
      case 17 -> x.read();
      case 18 -> x.fault();
      case 19 -> x.item(a, b);
      case 20 -> x.item(a, random.nextInt(8));
      case 21 -> x.counted(a, b);
      case 22 -> x.count(a);
      default -> DUE.is("check", x.check(), 1);
    }
  }

  private static void octet(DviPages x, int i) {
    boolean isThere = i >= 0 && i < x.count(1);
    try {
      int octet = x.octet(i);
      DUE.holds("octet", isThere && octet >= 0 && octet <= 255);
    } catch (ArrayIndexOutOfBoundsException e) {
      DUE.holds("no octet", !isThere);
    }
  }

  private static void agrees(DviPages x) {
    int answer = x.read();
    int fault = x.fault();
    if (fault == 0) {
      DUE.is("pages", answer, x.count(4));
    } else {
      DUE.holds("where the fault is", answer <= -1 && -1 - answer <= x.count(3));
      DUE.holds("fault", fault >= 1 && fault <= 10);
    }
    DUE.holds("pages", x.count(4) >= 0 && x.count(4) <= 20);
    DUE.holds("items", x.count(5) >= 0 && x.count(5) <= 600);
  }

  /** A written file with some bytes made others, or cut short. */
  private static void brokenFile(Random random) {
    DviPages x = new DviPages();
    x.font(3, 77);
    x.font(70, 78);
    x.width(3, 65, 100);
    for (int page = 0; page < 3; page++) {
      x.begin(page);
      x.push();
      x.use(page == 1 ? 70 : 3);
      for (int i = 0; i < 5; i++) {
        x.set(random.nextInt(256), random.nextBoolean());
        x.move(random.nextBoolean(), edge(random));
      }
      x.rule(1, 2, false);
      x.special(random.nextLong(), 8);
      x.pop();
      x.end();
    }
    x.finish();
    x.loop();
    DUE.is("whole", x.read(), 3);
    byte[] file = Bytes.written(x);
    for (int times = 0; times < 20; times++) {
      byte[] broken = Arrays.copyOf(file, random.nextInt(4) == 0
          ? random.nextInt(file.length) : file.length);
      for (int i = random.nextInt(4); i > 0 && broken.length > 0; i--) {
        broken[random.nextInt(broken.length)] = (byte) random.nextInt();
      }
      int answer = Bytes.read(x, broken);
      agrees(x);
      DUE.is("read again", x.read(), answer);
    }
  }
}
