import java.util.ArrayList;
import java.util.List;

/**
 * The document once more, as plainly as can be: every setting is listed and compared with every
 * other one, and nothing is remembered between calls.
 */
final class Model {
  private static final class Dot {
    int x;
    int y;
    boolean solo;

    Dot(int x, int y) {
      this.x = x;
      this.y = y;
    }
  }

  private static final class Pic {
    int counts;
    List<Dot> dots = new ArrayList<>();
  }

  private List<Integer> bounds = new ArrayList<>();
  private List<Boolean> ills = new ArrayList<>();
  private List<Pic> pics = new ArrayList<>();
  private int apart = 1;
  private int speed = 10;
  private int drumX = 20;
  private int drumY = 0;
  private Model kept = null;

  private Model copy() {
    Model m = new Model();
    m.bounds = new ArrayList<>(bounds);
    m.ills = new ArrayList<>(ills);
    for (Pic p : pics) {
      Pic q = new Pic();
      q.counts = p.counts;
      for (Dot d : p.dots) {
        Dot e = new Dot(d.x, d.y);
        e.solo = d.solo;
        q.dots.add(e);
      }
      m.pics.add(q);
    }
    m.apart = apart;
    m.speed = speed;
    m.drumX = drumX;
    m.drumY = drumY;
    return m;
  }

  private static boolean in(long v, long least, long most) {
    return v >= least && v <= most;
  }

  private boolean isMarcher(int m) {
    return in(m, 0, bounds.size() - 1);
  }

  private boolean isPicture(int p) {
    return in(p, 0, pics.size() - 1);
  }

  private boolean isDot(int p, int d) {
    return isPicture(p) && in(d, 0, pics.get(p).dots.size() - 1);
  }

  int marcher(int bound) {
    if (!in(bound, 1, 4)) {
      return -1;
    }
    if (bounds.size() == 6) {
      return -2;
    }
    bounds.add(bound);
    ills.add(false);
    return bounds.size() - 1;
  }

  int ill(int m, boolean is) {
    return !isMarcher(m) ? -1 : ills.set(m, is) == is ? 0 : 1;
  }

  int bound(int m, int v) {
    return !isMarcher(m) || !in(v, 1, 4) ? -1 : bounds.set(m, v);
  }

  int picture(int counts) {
    if (!in(counts, 1, 16)) {
      return -1;
    }
    if (pics.size() == 5) {
      return -2;
    }
    Pic p = new Pic();
    p.counts = counts;
    pics.add(p);
    return pics.size() - 1;
  }

  int counts(int p, int v) {
    if (!isPicture(p) || !in(v, 1, 16)) {
      return -1;
    }
    int was = pics.get(p).counts;
    pics.get(p).counts = v;
    return was;
  }

  private int add(int p, List<long[]> places) {
    List<Dot> dots = pics.get(p).dots;
    if (dots.size() + places.size() > 7) {
      return -2;
    }
    List<Dot> all = new ArrayList<>(dots);
    for (long[] place : places) {
      if (!in(place[0], 0, 40) || !in(place[1], 0, 40)) {
        return -4;
      }
      for (Dot d : all) {
        if (d.x == place[0] && d.y == place[1]) {
          return -4;
        }
      }
      all.add(new Dot((int) place[0], (int) place[1]));
    }
    pics.get(p).dots = all;
    return all.size();
  }

  int line(int p, int n, int x, int y, int dx, int dy) {
    if (!isPicture(p) || !in(n, 1, 7) || !in(dx, -10, 10) || !in(dy, -10, 10)) {
      return -1;
    }
    List<long[]> places = new ArrayList<>();
    for (long i = 0; i < n; i++) {
      places.add(new long[] {x + i * dx, y + i * dy});
    }
    return add(p, places);
  }

  int block(int p, int x, int y, int w, int h, int gap) {
    if (!isPicture(p) || !in(w, 1, 4) || !in(h, 1, 4) || !in(gap, 1, 5)) {
      return -1;
    }
    List<long[]> places = new ArrayList<>();
    for (long i = 0; i < (long) w * h; i++) {
      places.add(new long[] {x + i % w * gap, y + i / w * gap});
    }
    return add(p, places);
  }

  int corner(int p, int x, int y, int n, int gap) {
    if (!isPicture(p) || !in(n, 1, 4) || !in(gap, 1, 5)) {
      return -1;
    }
    List<long[]> places = new ArrayList<>();
    for (long i = 0; i < 2L * n - 1; i++) {
      places.add(new long[] {x + Math.min(i, n - 1) * gap, y + Math.max(0, i - n + 1) * gap});
    }
    return add(p, places);
  }

  int solo(int p, int d, boolean is) {
    if (!isDot(p, d)) {
      return -1;
    }
    Dot dot = pics.get(p).dots.get(d);
    boolean was = dot.solo;
    dot.solo = is;
    return was == is ? 0 : 1;
  }

  int scrub(int p) {
    if (!isPicture(p)) {
      return -1;
    }
    List<Dot> dots = pics.get(p).dots;
    if (dots.isEmpty()) {
      return -3;
    }
    dots.remove(dots.size() - 1);
    return dots.size();
  }

  int rule(int what, int v) {
    int was = what == 0 ? apart : speed;
    if (what == 0 && in(v, 0, 3)) {
      apart = v;
      return was;
    }
    if (what == 1 && in(v, 1, 20)) {
      speed = v;
      return was;
    }
    return -1;
  }

  int drums(int x, int y) {
    if (!in(x, 0, 40) || !in(y, 0, 40)) {
      return -4;
    }
    drumX = x;
    drumY = y;
    return 1;
  }

  int dot(int p, int d, int what) {
    if (!isDot(p, d) || !in(what, 0, 2)) {
      return -1;
    }
    Dot dot = pics.get(p).dots.get(d);
    return what == 0 ? dot.x : what == 1 ? dot.y : dot.solo ? 1 : 0;
  }

  /** A setting is told by the dots by marchers, -1 for those who are ill. */
  private static boolean givesSolos(Pic p, int[] s) {
    for (int d = 0; d < p.dots.size(); d++) {
      boolean given = false;
      for (int dot : s) {
        given |= dot == d;
      }
      if (p.dots.get(d).solo && !given) {
        return false;
      }
    }
    return true;
  }

  private static int step(Dot a, Dot b) {
    return Math.max(Math.abs(a.x - b.x), Math.abs(a.y - b.y));
  }

  /** Where one is at a half count, times 2 counts. */
  private static int at(int from, int to, int counts, int t) {
    return from * 2 * counts + t * (to - from);
  }

  private int closest(int p, int[] ahead, int[] s, int a, int b) {
    Pic was = pics.get(p - 1);
    Pic is = pics.get(p);
    int least = Integer.MAX_VALUE;
    Dot fromA = was.dots.get(ahead[a]);
    Dot fromB = was.dots.get(ahead[b]);
    Dot toA = is.dots.get(s[a]);
    Dot toB = is.dots.get(s[b]);
    for (int t = 1; t <= 2 * is.counts - 1; t++) {
      int x = at(fromA.x, toA.x, is.counts, t) - at(fromB.x, toB.x, is.counts, t);
      int y = at(fromA.y, toA.y, is.counts, t) - at(fromB.y, toB.y, is.counts, t);
      least = Math.min(least, Math.max(Math.abs(x), Math.abs(y)));
    }
    return least;
  }

  private boolean may(int p, int[] ahead, int[] s) {
    for (int a = 0; a < s.length; a++) {
      if (s[a] < 0) {
        continue;
      }
      int far = step(pics.get(p - 1).dots.get(ahead[a]), pics.get(p).dots.get(s[a]));
      if (far > bounds.get(a) * pics.get(p).counts) {
        return false;
      }
    }
    for (int a = 0; a < s.length; a++) {
      for (int b = 0; b < a; b++) {
        if (s[a] >= 0 && s[b] >= 0
            && closest(p, ahead, s, a, b) < apart * 2 * pics.get(p).counts) {
          return false;
        }
      }
    }
    return true;
  }

  private int greatest(int p, int[] ahead, int[] s) {
    int greatest = 0;
    for (int m = 0; p > 0 && m < s.length; m++) {
      if (s[m] >= 0) {
        greatest = Math.max(greatest,
            step(pics.get(p - 1).dots.get(ahead[m]), pics.get(p).dots.get(s[m])));
      }
    }
    return greatest;
  }

  private int sum(int p, int[] ahead, int[] s) {
    int sum = 0;
    for (int m = 0; p > 0 && m < s.length; m++) {
      if (s[m] >= 0) {
        sum += step(pics.get(p - 1).dots.get(ahead[m]), pics.get(p).dots.get(s[m]));
      }
    }
    return sum;
  }

  private boolean goesAhead(int p, int[] ahead, int[] s, int[] other) {
    if (greatest(p, ahead, s) != greatest(p, ahead, other)) {
      return greatest(p, ahead, s) < greatest(p, ahead, other);
    }
    if (sum(p, ahead, s) != sum(p, ahead, other)) {
      return sum(p, ahead, s) < sum(p, ahead, other);
    }
    for (int m = 0; m < s.length; m++) {
      if (s[m] != other[m]) {
        return s[m] < other[m];
      }
    }
    return false;
  }

  /** All rows of unlike dots, from the last to the first so that no order helps. */
  private void list(int dots, int m, int[] s, List<int[]> all) {
    if (m == s.length) {
      all.add(s.clone());
      return;
    }
    if (ills.get(m)) {
      s[m] = -1;
      list(dots, m + 1, s, all);
      return;
    }
    for (int d = dots - 1; d >= 0; d--) {
      boolean free = true;
      for (int i = 0; i < m; i++) {
        free &= s[i] != d;
      }
      if (free) {
        s[m] = d;
        list(dots, m + 1, s, all);
      }
    }
  }

  /** Null if there is none. */
  private int[] setting(int p, int[] ahead) {
    Pic pic = pics.get(p);
    List<int[]> all = new ArrayList<>();
    list(pic.dots.size(), 0, new int[bounds.size()], all);
    int[] best = null;
    for (int[] s : all) {
      if (givesSolos(pic, s) && (p == 0 || may(p, ahead, s))
          && (best == null || goesAhead(p, ahead, s, best))) {
        best = s;
      }
    }
    return best;
  }

  private List<int[]> settings() {
    List<int[]> all = new ArrayList<>();
    for (int p = 0; p < pics.size(); p++) {
      all.add(p > 0 && all.get(p - 1) == null ? null : setting(p, p == 0 ? null : all.get(p - 1)));
    }
    return all;
  }

  int set(int p, int m) {
    if (!isPicture(p) || !isMarcher(m)) {
      return -1;
    }
    if (ills.get(m)) {
      return -5;
    }
    int[] s = settings().get(p);
    return s == null ? -3 : s[m];
  }

  int steps(int p, int what) {
    if (!isPicture(p) || !in(what, 0, 2)) {
      return -1;
    }
    List<int[]> all = settings();
    if (all.get(p) == null) {
      return -3;
    }
    int[] ahead = p == 0 ? null : all.get(p - 1);
    if (what == 2) {
      return pics.get(p).dots.size() - many(1);
    }
    return what == 0 ? greatest(p, ahead, all.get(p)) : sum(p, ahead, all.get(p));
  }

  int way(int p, int m, int half, int what) {
    if (!isPicture(p) || p == 0 || !isMarcher(m) || !in(half, 0, 2 * pics.get(p).counts)
        || !in(what, 0, 3)) {
      return -1;
    }
    if (ills.get(m)) {
      return -5;
    }
    List<int[]> all = settings();
    if (all.get(p) == null) {
      return -3;
    }
    Dot from = pics.get(p - 1).dots.get(all.get(p - 1)[m]);
    Dot to = pics.get(p).dots.get(all.get(p)[m]);
    int counts = pics.get(p).counts;
    int above = what < 2 ? at(from.x, to.x, counts, half) : at(from.y, to.y, counts, half);
    int below = 2 * counts;
    for (int prime : new int[] {2, 3, 5, 7, 11, 13}) {
      while (above % prime == 0 && below % prime == 0) {
        above /= prime;
        below /= prime;
      }
    }
    return what % 2 == 0 ? above : below;
  }

  int closest(int p, int m, int other) {
    if (!isPicture(p) || p == 0 || !isMarcher(m) || !isMarcher(other) || m == other) {
      return -1;
    }
    if (ills.get(m) || ills.get(other)) {
      return -5;
    }
    List<int[]> all = settings();
    return all.get(p) == null ? -3 : closest(p, all.get(p - 1), all.get(p), m, other);
  }

  int late(int p, int m) {
    int d = set(p, m);
    if (d < 0) {
      return d;
    }
    Dot dot = pics.get(p).dots.get(d);
    return (Math.abs(dot.x - drumX) + Math.abs(dot.y - drumY)) / speed;
  }

  int hole(int m) {
    if (!isMarcher(m)) {
      return -1;
    }
    if (ills.get(m)) {
      return -5;
    }
    List<int[]> before = settings();
    ills.set(m, true);
    List<int[]> after = settings();
    int stay = many(1);
    int changes = 0;
    for (int p = 0; p < pics.size(); p++) {
      int[] a = before.get(p);
      int[] b = after.get(p);
      if ((a == null) != (b == null)) {
        changes += stay;
      }
      for (int i = 0; a != null && b != null && i < a.length; i++) {
        changes += !ills.get(i) && a[i] != b[i] ? 1 : 0;
      }
    }
    ills.set(m, false);
    return changes;
  }

  int ready() {
    int ready = 0;
    for (int[] s : settings()) {
      ready += s == null ? 0 : 1;
    }
    return ready;
  }

  int many(int what) {
    if (!in(what, 0, 5)) {
      return -1;
    }
    int dots = 0;
    int solos = 0;
    int present = 0;
    for (Pic p : pics) {
      dots += p.dots.size();
      for (Dot d : p.dots) {
        solos += d.solo ? 1 : 0;
      }
    }
    for (boolean is : ills) {
      present += is ? 0 : 1;
    }
    if (what < 5) {
      return new int[] {bounds.size(), present, pics.size(), dots, solos}[what];
    }
    int all = 0;
    for (int p = 0; p < pics.size(); p++) {
      all += Math.max(0, steps(p, 1));
    }
    return all;
  }

  int keep() {
    kept = copy();
    return 1;
  }

  int back() {
    if (kept == null) {
      return -3;
    }
    Model m = kept.copy();
    bounds = m.bounds;
    ills = m.ills;
    pics = m.pics;
    apart = m.apart;
    speed = m.speed;
    drumX = m.drumX;
    drumY = m.drumY;
    return 1;
  }
}
