import java.util.Random;

/** Random runs of up to 512 calls: every answer of the class is that of the plain model. */
public final class ModelTest {
  private static final int[] WRONG = {
    -1, -2, 5, 6, 7, 8, 16, 17, 20, 21, 33, 40, 41, 1000, Integer.MAX_VALUE, Integer.MIN_VALUE,
    Integer.MAX_VALUE - 9, Integer.MIN_VALUE + 9
  };

  private final Random random;
  private final Due due;
  private final DotsOnGrass real = new DotsOnGrass();
  private final Model model = new Model();
  private final StringBuilder told = new StringBuilder();
  private final int spread;
  private final int corner;
  private final int mostMarchers;
  private final int wrongPercent;
  private int made = 0;

  private ModelTest(long seed, Due due) {
    random = new Random(seed);
    this.due = due;
    spread = new int[] {3, 5, 8, 15, 41}[random.nextInt(5)];
    corner = random.nextInt(42 - spread);
    mostMarchers = 1 + random.nextInt(6);
    wrongPercent = new int[] {0, 2, 10}[random.nextInt(3)];
  }

  public static void main(String[] args) {
    int runs = args.length > 0 ? Integer.parseInt(args[0]) : 400;
    int first = args.length > 1 ? Integer.parseInt(args[1]) : 0;
    Due due = new Due("model");
    for (int run = first; run < first + runs && due.wrong() < 5; run++) {
      new ModelTest(run, due).run();
    }
    due.end();
  }

  private void run() {
    int calls = 60 + random.nextInt(453);
    while (made < calls) {
      int before = due.wrong();
      if (made < 25 || random.nextInt(100) < 30) {
        change();
      } else {
        ask();
      }
      if (due.wrong() > before) {
        System.out.println("behind: " + told);
        return;
      }
    }
  }

  /** A number from least to most, or now and then one that may not be. */
  private int number(int least, int most) {
    if (random.nextInt(100) < wrongPercent) {
      return WRONG[random.nextInt(WRONG.length)];
    }
    return least + random.nextInt(most - least + 1);
  }

  private int place() {
    return number(corner, corner + spread - 1);
  }

  private int oneOf(int many) {
    return number(0, Math.max(0, many - 1));
  }

  private int aMarcher() {
    return oneOf(model.many(0));
  }

  private int aPicture() {
    return oneOf(model.many(2));
  }

  private void check(String call, long want, long got, int... args) {
    StringBuilder text = new StringBuilder(call).append('(');
    for (int i = 0; i < args.length; i++) {
      text.append(i == 0 ? "" : ", ").append(args[i]);
    }
    text.append(')');
    made++;
    told.append(text).append(' ').append(want).append("; ");
    due.due(text.toString(), want, got);
  }

  private void change() {
    int kind = random.nextInt(100);
    if (kind < 14) {
      comeMarcher();
    } else if (kind < 26) {
      int counts = number(1, random.nextBoolean() ? 4 : 16);
      check("picture", model.picture(counts), real.picture(counts), counts);
    } else if (kind < 60) {
      shape();
    } else if (kind < 84) {
      changeMore(kind);
    } else if (kind < 92) {
      rules();
    } else if (kind < 95) {
      check("keep", model.keep(), real.keep());
    } else if (kind < 98) {
      check("back", model.back(), real.back());
    } else {
      int x = place();
      int y = place();
      check("drums", model.drums(x, y), real.drums(x, y), x, y);
    }
  }

  /** Where fewer are wanted than may come, others are refused, so that each turn makes a call. */
  private void comeMarcher() {
    boolean mayCome = model.many(0) < mostMarchers || mostMarchers == 6;
    int bound = mayCome ? number(1, 4) : 0;
    check("marcher", model.marcher(bound), real.marcher(bound), bound);
  }

  private void shape() {
    int p = aPicture();
    int x = place();
    int y = place();
    int kind = random.nextInt(4);
    if (kind < 2) {
      int n = number(1, random.nextInt(3) == 0 ? 7 : 3);
      int most = random.nextInt(4) == 0 ? 10 : 2;
      int dx = number(-most, most);
      int dy = number(-most, most);
      check("line", model.line(p, n, x, y, dx, dy), real.line(p, n, x, y, dx, dy),
          p, n, x, y, dx, dy);
    } else if (kind == 2) {
      int w = number(1, random.nextBoolean() ? 4 : 2);
      int h = number(1, random.nextBoolean() ? 4 : 2);
      int gap = number(1, 5);
      check("block", model.block(p, x, y, w, h, gap), real.block(p, x, y, w, h, gap),
          p, x, y, w, h, gap);
    } else {
      int n = number(1, random.nextBoolean() ? 4 : 2);
      int gap = number(1, 5);
      check("corner", model.corner(p, x, y, n, gap), real.corner(p, x, y, n, gap),
          p, x, y, n, gap);
    }
  }

  private void changeMore(int kind) {
    int p = aPicture();
    int m = aMarcher();
    if (kind < 66) {
      boolean is = random.nextInt(5) < 2;
      check("ill " + is, model.ill(m, is), real.ill(m, is), m);
    } else if (kind < 70) {
      int v = number(1, 4);
      check("bound", model.bound(m, v), real.bound(m, v), m, v);
    } else if (kind < 74) {
      int v = number(1, random.nextBoolean() ? 4 : 16);
      check("counts", model.counts(p, v), real.counts(p, v), p, v);
    } else if (kind < 79) {
      int d = number(0, 6);
      boolean is = random.nextInt(5) < 2;
      check("solo " + is, model.solo(p, d, is), real.solo(p, d, is), p, d);
    } else {
      check("scrub", model.scrub(p), real.scrub(p), p);
    }
  }

  private void rules() {
    int what = number(0, 1);
    int v = what == 0 ? number(0, 3) : number(1, 20);
    check("rule", model.rule(what, v), real.rule(what, v), what, v);
  }

  private void ask() {
    int p = aPicture();
    int m = aMarcher();
    int what = number(0, 2);
    switch (random.nextInt(10)) {
      case 0:
        int d = number(0, 6);
        check("dot", model.dot(p, d, what), real.dot(p, d, what), p, d, what);
        break;
      case 1:
      case 2:
        check("set", model.set(p, m), real.set(p, m), p, m);
        break;
      case 3:
        check("steps", model.steps(p, what), real.steps(p, what), p, what);
        break;
      case 4:
        int half = number(0, random.nextBoolean() ? 8 : 32);
        int part = number(0, 3);
        check("way", model.way(p, m, half, part), real.way(p, m, half, part), p, m, half, part);
        break;
      case 5:
        int other = aMarcher();
        check("closest", model.closest(p, m, other), real.closest(p, m, other), p, m, other);
        break;
      case 6:
        check("late", model.late(p, m), real.late(p, m), p, m);
        break;
      case 7:
        check("hole", model.hole(m), real.hole(m), m);
        break;
      case 8:
        check("ready", model.ready(), real.ready());
        break;
      default:
        int all = number(0, 5);
        check("many", model.many(all), real.many(all), all);
        break;
    }
  }
}
