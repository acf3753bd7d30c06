import java.lang.management.ManagementFactory;
import java.util.Random;

/** Any arguments in any state: no call throws, the same calls answer the same, and what a run makes stays small. */
public final class AnyCalls {
  private static final int[] EDGES = {Integer.MIN_VALUE, -20, -3, -2, -1, 0, 1, 2, 3, 4, 5, 6, 7, 8, 12, 13, 20, 21, 40, 41, 79, 80,
      84, 255, 256, 65536, Integer.MAX_VALUE};
  /** A room has 7.3 million fields and elements; this many bytes are well below a tenth of it. */
  private static final long MOST_BYTES = 4_000_000;
  private static int wrong = 0;

  public static void main(String[] args) {
    for (int run = 0; run < 400; run++) {
      long first = anything(run), second = anything(run);
      if (first != second) { wrong++; System.out.println("run " + run + " answers differently the second time"); }
    }
    room("letters that turn", AnyCalls::turning);
    room("beginnings", AnyCalls::beginnings);
    room("letters that are refused", AnyCalls::refusals);
    System.out.println(wrong == 0 ? "any calls are answered" : wrong + " faults");
    if (wrong != 0) System.exit(1);
  }

  private static long anything(int run) {
    Random dice = new Random(run);
    RatchetPost x = new RatchetPost(number(dice), number(dice));
    long all = 0;
    for (int u = 0; u < 6 && run % 4 != 0; u++) x.register(u);
    for (int i = 0; i < 1500; i++) {
      try {
        all = all * 31 + call(x, dice);
      } catch (RuntimeException e) {
        wrong++;
        System.out.println("run " + run + " throws " + e);
      }
    }
    return all;
  }

  private static int number(Random dice) {
    return dice.nextInt(3) == 0 ? EDGES[dice.nextInt(EDGES.length)] : dice.nextInt(4);
  }

  private static long call(RatchetPost x, Random dice) {
    int a = number(dice), b = number(dice), c = number(dice), d = number(dice);
    int l = dice.nextInt(82) - 1;
    switch (dice.nextInt(26)) {
      case 0: return x.feed(a, b, c, d, l);
      case 1: return x.end(a);
      case 2: return x.register(a);
      case 3: return x.publish(a, b);
      case 4: return x.rotate(a);
      case 5: return x.write(a, b);
      case 6: return x.begin(a, b);
      case 7: return x.forget(a, dice.nextInt(4) == 0 ? b : a);
      case 8: return x.come(l, a);
      case 9: return x.byteOf(a);
      case 10: return dice.nextInt(4) == 0 ? x.copy(l) : 0;
      case 11: return x.spoil(l, dice.nextInt(86) - 1, b);
      case 12: return x.letter(l, dice.nextInt(86) - 1);
      case 13: return x.forge(a, dice.nextInt(3) == 0 ? dice.nextLong() : x.number(a, 1));
      case 14: return x.user(a, b);
      case 15: return x.number(a, b);
      case 16: return x.session(a, b, c, d);
      case 17: return x.inside(a, b, c, d);
      case 18: return x.same(a, b, c, d);
      case 19: return x.look(a);
      case 20: return x.readable(l);
      case 21: return x.count(a);
      case 22: return x.come(l, x.letter(l, 2));
      case 23: return x.come(x.count(0) - 1, x.letter(x.count(0) - 1, 2));
      case 24: return x.copy(a) + x.spoil(a, b, c) + x.letter(a, b) + x.readable(a);
      default: return x.feed(a, b, c, d, l) + x.end(dice.nextInt(21)) + x.write(dice.nextInt(3), dice.nextInt(3));
    }
  }

  private static void room(String name, Runnable run) {
    run.run();
    com.sun.management.ThreadMXBean bean = (com.sun.management.ThreadMXBean) ManagementFactory.getThreadMXBean();
    long id = Thread.currentThread().getId();
    long before = bean.getThreadAllocatedBytes(id);
    run.run();
    long made = bean.getThreadAllocatedBytes(id) - before;
    if (made > MOST_BYTES) { wrong++; System.out.println("a run of " + name + " makes " + made + " bytes"); }
  }

  /** 80 letters, each of which turns the session. */
  private static void turning() {
    RatchetPost x = new RatchetPost(6, 1);
    for (int u = 0; u < 6; u++) x.register(u);
    for (int i = 0; i < 80; i++) {
      x.feed(i, i, i, i, i);
      x.feed(i, i, i, i, i);
      x.come(x.write(i % 2, 1 - i % 2), 1 - i % 2);
    }
    for (int i = 0; i < 100; i++) { x.look(i % 6); x.readable(79); }
  }

  private static void beginnings() {
    RatchetPost x = new RatchetPost(6, 1);
    for (int u = 0; u < 6; u++) { x.register(u); for (int k = 0; k < 5; k++) x.publish(u, 12); }
    for (int i = 0; i < 100; i++) x.begin(i % 6, (i + 1) % 6);
    for (int u = 0; u < 6; u++) for (int k = 0; k < 20; k++) x.rotate(u);
    for (int i = 0; i < 260; i++) x.publish(i % 6, 1);
  }

  /** Each of them makes a session that is thrown away. */
  private static void refusals() {
    RatchetPost x = new RatchetPost(2, 1);
    x.register(0);
    x.register(1);
    x.feed(1, 2, 3, 4, 5);
    int l = x.write(0, 1);
    x.spoil(l, 40, 1);
    for (int i = 0; i < 507; i++) x.come(l, 1);
  }
}
