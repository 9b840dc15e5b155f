import java.util.Arrays;

/**
 * A drill writer's room: pictures of dots on grass, and who takes which dot. What each call answers
 * is told in the document; the words in capitals are its terms.
 */
public final class DotsOnGrass {
  public static final int NUMBER = -1;
  public static final int FULL = -2;
  public static final int NONE = -3;
  public static final int PLACE = -4;
  public static final int ILL = -5;

  private static final int MOST_MARCHERS = 6;
  private static final int MOST_PICTURES = 5;
  private static final int MOST_DOTS = 7;
  private static final int MOST_BOUND = 4;
  private static final int MOST_COUNTS = 16;
  private static final int MOST_APART = 3;
  private static final int MOST_SPEED = 20;
  private static final int MOST_STRIDE = 10;
  private static final int MOST_SIDE = 4;
  private static final int MOST_GAP = 5;
  private static final int GRASS_END = 40;
  private static final int NOBODY = -1;

  private final Show now;
  private final Show kept;
  private boolean isKept;
  private final Shape shape;
  private final Plan plan;
  private final Plan holed;

  public DotsOnGrass() {
    now = new Show();
    kept = new Show();
    isKept = false;
    shape = new Shape();
    Search search = new Search();
    plan = new Plan(search);
    holed = new Plan(search);
  }

  // ---- who and where

  public int marcher(int bound) {
    if (isOutside(bound, 1, MOST_BOUND)) {
      return NUMBER;
    }
    if (now.marchers >= MOST_MARCHERS) {
      return FULL;
    }
    int number = now.marchers;
    now.bounds[number] = bound;
    now.isIll[number] = false;
    now.marchers = number + 1;
    plan.forgetFrom(0);
    return number;
  }

  public int ill(int marcher, boolean is) {
    if (!now.hasMarcher(marcher)) {
      return NUMBER;
    }
    if (now.isIll[marcher] == is) {
      return 0;
    }
    now.isIll[marcher] = is;
    plan.forgetFrom(0);
    return 1;
  }

  public int bound(int marcher, int v) {
    if (!now.hasMarcher(marcher) || isOutside(v, 1, MOST_BOUND)) {
      return NUMBER;
    }
    int before = now.bounds[marcher];
    now.bounds[marcher] = v;
    plan.forgetFrom(1);
    return before;
  }

  public int picture(int counts) {
    if (isOutside(counts, 1, MOST_COUNTS)) {
      return NUMBER;
    }
    if (now.pictures >= MOST_PICTURES) {
      return FULL;
    }
    int number = now.pictures;
    now.album[number].begin(counts);
    now.pictures = number + 1;
    plan.forgetFrom(number);
    return number;
  }

  public int counts(int picture, int v) {
    if (!now.hasPicture(picture) || isOutside(v, 1, MOST_COUNTS)) {
      return NUMBER;
    }
    Picture changed = now.album[picture];
    int before = changed.counts;
    changed.counts = v;
    plan.forgetFrom(picture);
    return before;
  }

  public int line(int picture, int n, int x, int y, int dx, int dy) {
    if (!now.hasPicture(picture) || isOutside(n, 1, MOST_DOTS)
        || isOutside(dx, -MOST_STRIDE, MOST_STRIDE) || isOutside(dy, -MOST_STRIDE, MOST_STRIDE)) {
      return NUMBER;
    }
    if (!now.album[picture].hasRoomFor(n)) {
      return FULL;
    }
    shape.becomeLine(n, x, y, dx, dy);
    return draw(picture);
  }

  public int block(int picture, int x, int y, int w, int h, int gap) {
    if (!now.hasPicture(picture) || isOutside(w, 1, MOST_SIDE) || isOutside(h, 1, MOST_SIDE)
        || isOutside(gap, 1, MOST_GAP)) {
      return NUMBER;
    }
    if (!now.album[picture].hasRoomFor(w * h)) {
      return FULL;
    }
    shape.becomeBlock(x, y, w, h, gap);
    return draw(picture);
  }

  public int corner(int picture, int x, int y, int n, int gap) {
    if (!now.hasPicture(picture) || isOutside(n, 1, MOST_SIDE) || isOutside(gap, 1, MOST_GAP)) {
      return NUMBER;
    }
    if (!now.album[picture].hasRoomFor(n + n - 1)) {
      return FULL;
    }
    shape.becomeCorner(x, y, n, gap);
    return draw(picture);
  }

  public int solo(int picture, int dot, boolean is) {
    if (!now.hasPicture(picture) || !now.album[picture].hasDot(dot)) {
      return NUMBER;
    }
    Picture changed = now.album[picture];
    if (changed.isSolo[dot] == is) {
      return 0;
    }
    changed.isSolo[dot] = is;
    plan.forgetFrom(picture);
    return 1;
  }

  public int scrub(int picture) {
    if (!now.hasPicture(picture)) {
      return NUMBER;
    }
    Picture changed = now.album[picture];
    if (changed.dots < 1) {
      return NONE;
    }
    changed.dots--;
    plan.forgetFrom(picture);
    return changed.dots;
  }

  public int rule(int what, int v) {
    if (what == 0 && !isOutside(v, 0, MOST_APART)) {
      int before = now.apart;
      now.apart = v;
      plan.forgetFrom(1);
      return before;
    }
    if (what == 1 && !isOutside(v, 1, MOST_SPEED)) {
      int before = now.speed;
      now.speed = v;
      return before;
    }
    return NUMBER;
  }

  public int drums(int x, int y) {
    if (!isOnGrass(x, y)) {
      return PLACE;
    }
    now.drumsX = x;
    now.drumsY = y;
    return 1;
  }

  public int dot(int picture, int dot, int what) {
    if (!now.hasPicture(picture) || !now.album[picture].hasDot(dot) || isOutside(what, 0, 2)) {
      return NUMBER;
    }
    Picture asked = now.album[picture];
    if (what == 2) {
      return asked.isSolo[dot] ? 1 : 0;
    }
    return what == 0 ? asked.xOf(dot) : asked.yOf(dot);
  }

  // ---- settings

  public int set(int picture, int marcher) {
    int refusal = refusalOf(picture, marcher);
    return refusal < 0 ? refusal : plan.dotOf(picture, marcher);
  }

  public int steps(int picture, int what) {
    if (!now.hasPicture(picture) || isOutside(what, 0, 2)) {
      return NUMBER;
    }
    plan.settleTo(now, picture, NOBODY);
    if (!plan.isFound[picture]) {
      return NONE;
    }
    if (what == 2) {
      return now.album[picture].dots - now.present();
    }
    return what == 0 ? plan.greatest[picture] : plan.sum[picture];
  }

  public int way(int picture, int marcher, int half, int what) {
    if (!now.hasPicture(picture) || picture == 0 || isOutside(what, 0, 3)) {
      return NUMBER;
    }
    int halves = 2 * now.album[picture].counts;
    if (isOutside(half, 0, halves)) {
      return NUMBER;
    }
    int refusal = refusalOf(picture, marcher);
    if (refusal < 0) {
      return refusal;
    }
    boolean alongX = what < 2;
    int start = alongX ? xIn(picture - 1, marcher) : yIn(picture - 1, marcher);
    int end = alongX ? xIn(picture, marcher) : yIn(picture, marcher);
    int above = start * (halves - half) + end * half;
    boolean wantsAbove = what == 0 || what == 2;
    return cleared(wantsAbove ? above : halves, above, halves);
  }

  public int closest(int picture, int marcher, int other) {
    if (!now.hasPicture(picture) || picture == 0 || !now.hasMarcher(marcher)
        || !now.hasMarcher(other) || marcher == other) {
      return NUMBER;
    }
    if (now.isIll[marcher] || now.isIll[other]) {
      return ILL;
    }
    plan.settleTo(now, picture, NOBODY);
    if (!plan.isFound[picture]) {
      return NONE;
    }
    return leastStep(now.album[picture].counts,
        xIn(picture - 1, marcher) - xIn(picture - 1, other),
        yIn(picture - 1, marcher) - yIn(picture - 1, other),
        xIn(picture, marcher) - xIn(picture, other),
        yIn(picture, marcher) - yIn(picture, other));
  }

  public int late(int picture, int marcher) {
    int refusal = refusalOf(picture, marcher);
    if (refusal < 0) {
      return refusal;
    }
    int far = Math.abs(xIn(picture, marcher) - now.drumsX)
        + Math.abs(yIn(picture, marcher) - now.drumsY);
    return now.speed < 1 ? far : far / now.speed;
  }

  public int hole(int marcher) {
    if (!now.hasMarcher(marcher)) {
      return NUMBER;
    }
    if (now.isIll[marcher]) {
      return ILL;
    }
    plan.settleTo(now, now.pictures - 1, NOBODY);
    holed.forgetFrom(0);
    holed.settleTo(now, now.pictures - 1, marcher);
    int changes = 0;
    for (int p = 0; p < now.pictures; p++) {
      changes += changesIn(p, marcher);
    }
    return changes;
  }

  public int ready() {
    plan.settleTo(now, now.pictures - 1, NOBODY);
    int settled = 0;
    for (int p = 0; p < now.pictures; p++) {
      if (plan.isFound[p]) {
        settled++;
      }
    }
    return settled;
  }

  public int many(int what) {
    switch (what) {
      case 0:
        return now.marchers;
      case 1:
        return now.present();
      case 2:
        return now.pictures;
      case 3:
        return allDots();
      case 4:
        return allSolos();
      case 5:
        return allSteps();
      default:
        return NUMBER;
    }
  }

  // ---- kept

  public int keep() {
    kept.become(now);
    isKept = true;
    return 1;
  }

  public int back() {
    if (!isKept) {
      return NONE;
    }
    now.become(kept);
    plan.forgetFrom(0);
    return 1;
  }

  // ---- what several calls need

  private static boolean isOutside(int v, int least, int most) {
    return v < least || v > most;
  }

  private static boolean isOnGrass(int x, int y) {
    return !isOutside(x, 0, GRASS_END) && !isOutside(y, 0, GRASS_END);
  }

  /**
   * The least STEP between two at the HALF COUNTS behind the first and ahead of the last, times 2
   * COUNTS so that it is whole. Only how they stand to one another matters, at the start and end.
   */
  private static int leastStep(int counts, int startX, int startY, int endX, int endY) {
    int halves = 2 * counts;
    int least = Integer.MAX_VALUE;
    for (int t = 1; t < halves; t++) {
      int apartX = Math.abs(startX * (halves - t) + endX * t);
      int apartY = Math.abs(startY * (halves - t) + endY * t);
      least = Math.min(least, Math.max(apartX, apartY));
    }
    return least;
  }

  /** One part of the fraction above / below, divided by the greatest divisor of both. */
  private static int cleared(int part, int above, int below) {
    for (int divisor = below; divisor > 1; divisor--) {
      if (above % divisor == 0 && below % divisor == 0) {
        return part / divisor;
      }
    }
    return part;
  }

  /** By a loop, as the library's copies are for arrays of numbers. */
  private static void copyFlags(boolean[] from, boolean[] to) {
    for (int i = 0; i < to.length && i < from.length; i++) {
      to[i] = from[i];
    }
  }

  private int draw(int picture) {
    Picture changed = now.album[picture];
    if (!changed.canTake(shape)) {
      return PLACE;
    }
    changed.take(shape);
    plan.forgetFrom(picture);
    return changed.dots;
  }

  /** Why nothing can be told of a MARCHER in a PICTURE; 0 if it can be. */
  private int refusalOf(int picture, int marcher) {
    if (!now.hasPicture(picture) || !now.hasMarcher(marcher)) {
      return NUMBER;
    }
    if (now.isIll[marcher]) {
      return ILL;
    }
    plan.settleTo(now, picture, NOBODY);
    return plan.isFound[picture] ? 0 : NONE;
  }

  private int xIn(int picture, int marcher) {
    return now.album[picture].xOf(plan.dotOf(picture, marcher));
  }

  private int yIn(int picture, int marcher) {
    return now.album[picture].yOf(plan.dotOf(picture, marcher));
  }

  private int changesIn(int picture, int leaver) {
    if (plan.isFound[picture] != holed.isFound[picture]) {
      return now.present() - 1;
    }
    if (!plan.isFound[picture]) {
      return 0;
    }
    int changes = 0;
    for (int m = 0; m < now.marchers; m++) {
      if (m != leaver && plan.dotOf(picture, m) != holed.dotOf(picture, m)) {
        changes++;
      }
    }
    return changes;
  }

  private int allDots() {
    int all = 0;
    for (int p = 0; p < now.pictures; p++) {
      all += now.album[p].dots;
    }
    return all;
  }

  private int allSolos() {
    int all = 0;
    for (int p = 0; p < now.pictures; p++) {
      all += now.album[p].solos();
    }
    return all;
  }

  private int allSteps() {
    plan.settleTo(now, now.pictures - 1, NOBODY);
    int all = 0;
    for (int p = 0; p < now.pictures; p++) {
      if (plan.isFound[p]) {
        all += plan.sum[p];
      }
    }
    return all;
  }

  /** The DOTS that a call would add, ahead of knowing whether they may stand. */
  private static final class Shape {
    final int[] x = new int[MOST_DOTS];
    final int[] y = new int[MOST_DOTS];
    int dots;

    void becomeLine(int n, int atX, int atY, int dx, int dy) {
      dots = 0;
      for (int i = 0; i < n; i++) {
        put(atX + i * dx, atY + i * dy);
      }
    }

    void becomeBlock(int atX, int atY, int w, int h, int gap) {
      dots = 0;
      for (int row = 0; row < h; row++) {
        for (int column = 0; column < w; column++) {
          put(atX + column * gap, atY + row * gap);
        }
      }
    }

    void becomeCorner(int atX, int atY, int n, int gap) {
      dots = 0;
      for (int i = 0; i < n; i++) {
        put(atX + i * gap, atY);
      }
      for (int i = 1; i < n; i++) {
        put(atX + (n - 1) * gap, atY + i * gap);
      }
    }

    private void put(int atX, int atY) {
      if (dots < MOST_DOTS) {
        x[dots] = atX;
        y[dots] = atY;
        dots++;
      }
    }

    boolean hasTwins() {
      for (int i = 0; i < dots; i++) {
        for (int j = 0; j < i; j++) {
          if (x[i] == x[j] && y[i] == y[j]) {
            return true;
          }
        }
      }
      return false;
    }
  }

  /** One PICTURE: its COUNTS and its DOTS. */
  private static final class Picture {
    final int[] x = new int[MOST_DOTS];
    final int[] y = new int[MOST_DOTS];
    final boolean[] isSolo = new boolean[MOST_DOTS];
    int dots;
    int counts = 1;

    void begin(int firstCounts) {
      counts = firstCounts;
      dots = 0;
    }

    void become(Picture other) {
      counts = other.counts;
      dots = other.dots;
      System.arraycopy(other.x, 0, x, 0, MOST_DOTS);
      System.arraycopy(other.y, 0, y, 0, MOST_DOTS);
      copyFlags(other.isSolo, isSolo);
    }

    boolean hasDot(int dot) {
      return dot >= 0 && dot < dots;
    }

    int xOf(int dot) {
      return hasDot(dot) ? x[dot] : 0;
    }

    int yOf(int dot) {
      return hasDot(dot) ? y[dot] : 0;
    }

    int solos() {
      int solos = 0;
      for (int d = 0; d < dots; d++) {
        if (isSolo[d]) {
          solos++;
        }
      }
      return solos;
    }

    boolean hasRoomFor(int more) {
      return dots + more <= MOST_DOTS;
    }

    boolean canTake(Shape shape) {
      for (int i = 0; i < shape.dots; i++) {
        if (!isOnGrass(shape.x[i], shape.y[i]) || hasDotAt(shape.x[i], shape.y[i])) {
          return false;
        }
      }
      return !shape.hasTwins();
    }

    private boolean hasDotAt(int atX, int atY) {
      for (int d = 0; d < dots; d++) {
        if (x[d] == atX && y[d] == atY) {
          return true;
        }
      }
      return false;
    }

    void take(Shape shape) {
      for (int i = 0; i < shape.dots && dots < MOST_DOTS; i++) {
        x[dots] = shape.x[i];
        y[dots] = shape.y[i];
        isSolo[dots] = false;
        dots++;
      }
    }
  }

  /** All that is kept and comes back. */
  private static final class Show {
    final int[] bounds = new int[MOST_MARCHERS];
    final boolean[] isIll = new boolean[MOST_MARCHERS];
    int marchers;
    final Picture[] album = new Picture[MOST_PICTURES];
    int pictures;
    int apart = 1;
    int speed = 10;
    int drumsX = 20;
    int drumsY;

    Show() {
      for (int p = 0; p < MOST_PICTURES; p++) {
        album[p] = new Picture();
      }
    }

    void become(Show other) {
      System.arraycopy(other.bounds, 0, bounds, 0, MOST_MARCHERS);
      copyFlags(other.isIll, isIll);
      marchers = other.marchers;
      for (int p = 0; p < MOST_PICTURES; p++) {
        album[p].become(other.album[p]);
      }
      pictures = other.pictures;
      apart = other.apart;
      speed = other.speed;
      drumsX = other.drumsX;
      drumsY = other.drumsY;
    }

    boolean hasMarcher(int marcher) {
      return marcher >= 0 && marcher < marchers;
    }

    boolean hasPicture(int picture) {
      return picture >= 0 && picture < pictures;
    }

    int present() {
      int present = 0;
      for (int m = 0; m < marchers; m++) {
        if (!isIll[m]) {
          present++;
        }
      }
      return present;
    }
  }

  /**
   * THE SETTINGS of a show. They are found when they are asked for and stay known until something
   * changes that they hang on, as one change ahead of many questions is the ordinary run of calls.
   */
  private static final class Plan {
    final boolean[] isFound = new boolean[MOST_PICTURES];
    final int[] greatest = new int[MOST_PICTURES];
    final int[] sum = new int[MOST_PICTURES];
    private final int[][] given = new int[MOST_PICTURES][MOST_MARCHERS];
    private final Search search;
    private int known;

    Plan(Search search) {
      this.search = search;
    }

    /** Each SETTING hangs on the one ahead, so all behind a changed PICTURE are forgotten too. */
    void forgetFrom(int picture) {
      known = Math.min(known, picture);
    }

    /** The DOT of a MARCHER in a PICTURE that is settled; NOBODY's number if it has none there. */
    int dotOf(int picture, int marcher) {
      return given[picture][marcher];
    }

    void settleTo(Show show, int last, int leaver) {
      for (int p = known; p <= last && p < show.pictures; p++) {
        settle(show, p, leaver);
        known = p + 1;
      }
    }

    private void settle(Show show, int picture, int leaver) {
      isFound[picture] = false;
      Arrays.fill(given[picture], NOBODY);
      search.begin(show, leaver);
      if (picture == 0) {
        search.startAnywhere();
      } else if (isFound[picture - 1]) {
        search.startFrom(show, picture, given[picture - 1]);
      } else {
        return;
      }
      Picture to = show.album[picture];
      search.choose(to, 0, 0, to.solos(), 0, 0);
      isFound[picture] = search.isFound;
      greatest[picture] = search.bestGreatest;
      sum[picture] = search.bestSum;
      search.tell(given[picture]);
    }
  }

  /**
   * The search for THE SETTING of one PICTURE. Those who get a DOT take turns, in the order of
   * their numbers, and try the DOTS from 0 on: so of several that are as good the first one found
   * is the one that the document wants.
   */
  private static final class Search {
    private static final int TOO_FAR = -1;
    private static final int UNTRIED = 0;
    private static final int CLEAR = 1;
    private static final int NEAR = 2;

    boolean isFound;
    int bestGreatest;
    int bestSum;
    private final int[] best = new int[MOST_MARCHERS];
    private final int[] who = new int[MOST_MARCHERS];
    private int turns;
    private final int[] startX = new int[MOST_MARCHERS];
    private final int[] startY = new int[MOST_MARCHERS];
    private final int[] taken = new int[MOST_MARCHERS];
    private final int[] steps = new int[MOST_MARCHERS * MOST_DOTS];
    private final int[] pairs = new int[MOST_MARCHERS * MOST_DOTS * MOST_MARCHERS * MOST_DOTS];
    private int apart;

    /** Those who are PRESENT, but for the leaver, get turns. */
    void begin(Show show, int leaver) {
      isFound = false;
      bestGreatest = 0;
      bestSum = 0;
      turns = 0;
      for (int m = 0; m < show.marchers; m++) {
        if (!show.isIll[m] && m != leaver) {
          who[turns] = m;
          turns++;
        }
      }
    }

    /** Nobody comes from anywhere to PICTURE 0: no STEPS, and nobody near on the way. */
    void startAnywhere() {
      Arrays.fill(steps, 0);
      Arrays.fill(pairs, CLEAR);
    }

    void startFrom(Show show, int picture, int[] givenAhead) {
      Picture ahead = show.album[picture - 1];
      Picture to = show.album[picture];
      apart = show.apart;
      Arrays.fill(pairs, apart == 0 ? CLEAR : UNTRIED);
      for (int turn = 0; turn < turns; turn++) {
        startX[turn] = ahead.xOf(givenAhead[who[turn]]);
        startY[turn] = ahead.yOf(givenAhead[who[turn]]);
        measureSteps(to, turn, show.bounds[who[turn]] * to.counts);
      }
    }

    private void measureSteps(Picture to, int turn, int reach) {
      for (int dot = 0; dot < to.dots; dot++) {
        int stepX = Math.abs(to.x[dot] - startX[turn]);
        int stepY = Math.abs(to.y[dot] - startY[turn]);
        int step = Math.max(stepX, stepY);
        steps[turn * MOST_DOTS + dot] = step <= reach ? step : TOO_FAR;
      }
    }

    /** Writes who got which DOT, by MARCHERS' numbers. */
    void tell(int[] given) {
      for (int turn = 0; isFound && turn < turns; turn++) {
        given[who[turn]] = best[turn];
      }
    }

    /** Recursion: each level is one turn, and there are at most as many as MARCHERS. */
    private void choose(Picture to, int turn, int used, int solosLeft, int greatest, int sum) {
      if (solosLeft > turns - turn) {
        return;
      }
      if (turn >= turns) {
        remember(greatest, sum);
        return;
      }
      for (int dot = 0; dot < to.dots; dot++) {
        int step = steps[turn * MOST_DOTS + dot];
        if ((used >> dot & 1) == 0 && step != TOO_FAR
            && isBetter(Math.max(greatest, step), sum + step) && isClear(to, turn, dot)) {
          taken[turn] = dot;
          choose(to, turn + 1, used | 1 << dot, to.isSolo[dot] ? solosLeft - 1 : solosLeft,
              Math.max(greatest, step), sum + step);
        }
      }
    }

    /** More turns make neither less, so what is no better already never becomes it. */
    private boolean isBetter(int greatest, int sum) {
      return !isFound || greatest < bestGreatest || greatest == bestGreatest && sum < bestSum;
    }

    private void remember(int greatest, int sum) {
      isFound = true;
      bestGreatest = greatest;
      bestSum = sum;
      System.arraycopy(taken, 0, best, 0, MOST_MARCHERS);
    }

    /** The same two ways meet in many settings, so what was found of them is remembered. */
    private boolean isClear(Picture to, int turn, int dot) {
      for (int other = 0; other < turn; other++) {
        int otherDot = taken[other];
        int pair = ((other * MOST_DOTS + otherDot) * MOST_MARCHERS + turn) * MOST_DOTS + dot;
        if (pairs[pair] == UNTRIED) {
          int least = leastStep(to.counts,
              startX[turn] - startX[other], startY[turn] - startY[other],
              to.x[dot] - to.x[otherDot], to.y[dot] - to.y[otherDot]);
          pairs[pair] = least < apart * 2 * to.counts ? NEAR : CLEAR;
        }
        if (pairs[pair] == NEAR) {
          return false;
        }
      }
      return true;
    }
  }
}
