/** Promises 15 to 24: settings, holes, and what is kept. */
public final class SettingsTest {
  private static final int MIN = Integer.MIN_VALUE;
  private static final int MAX = Integer.MAX_VALUE;

  public static void main(String[] args) {
    Due t = new Due("settings");
    promise15First(t);
    promise15Least(t);
    promise15Bounds(t);
    promise15Apart(t);
    promise15Refusals(t);
    promise16(t);
    promise17(t);
    promise18(t);
    promise19(t);
    promise20(t);
    promise20None(t);
    promise21(t);
    promise22(t);
    promises23And24(t);
    promise24Settings(t);
    t.end();
  }

  /** Marchers with BOUND 4, and pictures of 8 COUNTS without DOTS. */
  private static DotsOnGrass room(int marchers, int pictures) {
    DotsOnGrass d = new DotsOnGrass();
    for (int m = 0; m < marchers; m++) {
      d.marcher(4);
    }
    for (int p = 0; p < pictures; p++) {
      d.picture(8);
    }
    return d;
  }

  private static void put(DotsOnGrass d, int picture, int x, int y) {
    d.line(picture, 1, x, y, 0, 0);
  }

  private static void dueSet(Due t, String about, DotsOnGrass d, int picture, int... dots) {
    for (int m = 0; m < dots.length; m++) {
      t.due(about + ": set(" + picture + ", " + m + ")", dots[m], d.set(picture, m));
    }
  }

  private static void promise15First(Due t) {
    DotsOnGrass d = room(2, 1);
    dueSet(t, "15: no DOTS", d, 0, -3, -3);
    put(d, 0, 0, 0);
    dueSet(t, "15: too few DOTS", d, 0, -3, -3);
    d.line(0, 3, 0, 1, 0, 1);
    dueSet(t, "15: lesser DOTS first", d, 0, 0, 1);
    d.solo(0, 3, true);
    dueSet(t, "15: the last one takes the SOLO", d, 0, 0, 3);
    d.solo(0, 1, true);
    dueSet(t, "15: two SOLOS", d, 0, 1, 3);
    d.solo(0, 0, true);
    dueSet(t, "15: more SOLOS than MARCHERS", d, 0, -3, -3);
    d.solo(0, 3, false);
    dueSet(t, "15: two SOLOS", d, 0, 0, 1);
    d.marcher(1);
    dueSet(t, "15: one more comes", d, 0, 0, 1, 2);
    d.ill(0, true);
    dueSet(t, "15: one is ILL", d, 0, -5, 0, 1);
    d.rule(0, 3);
    dueSet(t, "15: APART doesn't matter in PICTURE 0", d, 0, -5, 0, 1);
  }

  private static void promise15Least(Due t) {
    // 0 at (0, 0) and 1 at (10, 0): crossing would make the greatest STEP 20, not 10
    DotsOnGrass d = room(2, 2);
    d.line(0, 2, 0, 0, 10, 0);
    d.line(1, 2, 20, 0, -10, 0);
    d.rule(0, 0);
    dueSet(t, "15: least greatest", d, 1, 1, 0);
    // 1 goes 10 to DOT 2 either way; 0 goes 5 to DOT 0 or stays at DOT 1
    DotsOnGrass e = room(2, 2);
    put(e, 0, 0, 0);
    put(e, 0, 0, 20);
    put(e, 1, 5, 0);
    put(e, 1, 0, 0);
    put(e, 1, 10, 20);
    e.rule(0, 0);
    dueSet(t, "15: least sum", e, 1, 1, 2);
    t.due("15: the greatest", 10, e.steps(1, 0));
    t.due("15: the sum", 10, e.steps(1, 1));
    // a least greatest one goes ahead of a lesser sum: 6 + 6 against 0 + 7
    DotsOnGrass f = room(2, 2);
    f.line(0, 2, 10, 10, 6, 0);
    put(f, 1, 16, 10);
    put(f, 1, 10, 4);
    put(f, 1, 10, 17);
    f.solo(1, 2, true);
    dueSet(t, "15: solo wanted", f, 1, 2, 0);
    f.solo(1, 2, false);
    dueSet(t, "15: sum behind greatest", f, 1, 1, 0);
    // all the same: the lesser DOT of the first MARCHER
    DotsOnGrass g = room(2, 2);
    g.line(0, 2, 20, 20, 1, 0);
    g.line(1, 2, 20, 10, 1, 0);
    g.rule(0, 0);
    dueSet(t, "15: lesser DOT", g, 1, 0, 1);
  }

  private static void promise15Bounds(Due t) {
    DotsOnGrass d = room(1, 3);
    put(d, 0, 0, 0);
    put(d, 1, 32, 32);
    put(d, 2, 32, 31);
    dueSet(t, "15: just within the BOUND", d, 1, 0);
    d.counts(1, 7);
    dueSet(t, "15: too few COUNTS", d, 1, -3);
    dueSet(t, "15: nor behind it", d, 2, -3);
    d.counts(1, 16);
    d.bound(0, 2);
    dueSet(t, "15: just within the BOUND", d, 1, 0);
    dueSet(t, "15: and behind it", d, 2, 0);
    d.bound(0, 1);
    dueSet(t, "15: beyond the BOUND", d, 1, -3);
    dueSet(t, "15: the first one stands", d, 0, 0);
    put(d, 1, 16, 3);
    dueSet(t, "15: a DOT within the BOUND", d, 1, 1);
    d.scrub(1);
    dueSet(t, "15: and it is gone", d, 1, -3);
  }

  private static void promise15Apart(Due t) {
    // 0 can reach DOT 0 alone, so 1 has to pass it: at (10.5, 10) and (10, 10) half way
    DotsOnGrass d = room(2, 2);
    d.counts(1, 1);
    d.bound(0, 1);
    d.line(0, 2, 10, 10, 2, 0);
    put(d, 1, 11, 10);
    put(d, 1, 8, 10);
    dueSet(t, "15: one passes another one", d, 1, -3, -3);
    d.rule(0, 0);
    dueSet(t, "15: it may with APART 0", d, 1, 0, 1);
    // 0 can reach DOT 0 alone: at (10.5, 10) and (11.5, 12) half way
    DotsOnGrass e = room(2, 2);
    e.counts(1, 1);
    e.line(0, 2, 10, 10, 2, 0);
    e.line(1, 2, 11, 10, 0, 4);
    e.rule(0, 2);
    e.bound(0, 1);
    dueSet(t, "15: 1 by x, 2 by y half way", e, 1, 0, 1);
    e.rule(0, 3);
    dueSet(t, "15: below APART half way", e, 1, -3, -3);
    e.rule(0, 0);
    dueSet(t, "15: APART 0", e, 1, 0, 1);
    // at the first and last HALF COUNT they may be near
    DotsOnGrass f = room(2, 2);
    f.counts(1, 1);
    f.line(0, 2, 10, 10, 1, 0);
    put(f, 1, 8, 10);
    put(f, 1, 13, 10);
    f.rule(0, 3);
    dueSet(t, "15: near at first only", f, 1, 0, 1);
    DotsOnGrass g = room(2, 2);
    g.counts(1, 1);
    g.line(0, 2, 8, 10, 5, 0);
    g.line(1, 2, 10, 10, 1, 0);
    g.rule(0, 3);
    dueSet(t, "15: near at last only", g, 1, 0, 1);
    g.counts(1, 2);
    dueSet(t, "15: near at HALF COUNT 3 of 4", g, 1, -3, -3);
  }

  private static void promise15Refusals(Due t) {
    DotsOnGrass d = room(2, 1);
    d.ill(1, true);
    for (int wrong : new int[] {-1, 2, MIN, MAX}) {
      t.due("15: set(0, " + wrong + ")", -1, d.set(0, wrong));
      t.due("15: set(" + wrong + ", 1)", -1, d.set(wrong, 1));
    }
    t.due("15: set(1, 0)", -1, d.set(1, 0));
    t.due("15: ILL ahead of NONE", -5, d.set(0, 1));
    t.due("15: NONE", -3, d.set(0, 0));
  }

  private static void promise16(Due t) {
    DotsOnGrass d = room(2, 2);
    for (int what = 0; what < 3; what++) {
      t.due("16: NONE", -3, d.steps(0, what));
    }
    d.line(0, 4, 3, 3, 5, 0);
    t.due("16: PICTURE 0", 0, d.steps(0, 0));
    t.due("16: PICTURE 0", 0, d.steps(0, 1));
    t.due("16: not given", 2, d.steps(0, 2));
    t.due("16: NONE", -3, d.steps(1, 2));
    put(d, 1, 3, 12);
    put(d, 1, 8, 1);
    put(d, 1, 40, 40);
    t.due("16: greatest", 9, d.steps(1, 0));
    t.due("16: sum", 11, d.steps(1, 1));
    t.due("16: not given", 1, d.steps(1, 2));
    d.ill(0, true);
    t.due("16: not given", 3, d.steps(0, 2));
    t.due("16: not given", 2, d.steps(1, 2));
    for (int wrong : new int[] {-1, 3, MIN, MAX}) {
      t.due("16: steps(1, " + wrong + ")", -1, d.steps(1, wrong));
      t.due("16: steps(" + wrong + ", 0)", -1, d.steps(wrong, 0));
    }
    t.due("16: steps(2, 0)", -1, d.steps(2, 0));
    d.ill(1, true);
    t.due("16: nobody there", 0, d.steps(1, 0));
    t.due("16: nobody there", 0, d.steps(1, 1));
    t.due("16: nobody there", 3, d.steps(1, 2));
  }

  private static void dueWay(Due t, DotsOnGrass d, int half, int... want) {
    for (int what = 0; what < 4; what++) {
      t.due("17: way(1, 0, " + half + ", " + what + ")", want[what], d.way(1, 0, half, what));
    }
  }

  private static void promise17(Due t) {
    DotsOnGrass d = room(2, 3);
    t.due("17: NONE", -3, d.way(1, 0, 0, 0));
    put(d, 0, 4, 9);
    put(d, 0, 34, 9);
    put(d, 1, 0, 15);
    put(d, 1, 34, 15);
    d.counts(1, 3);
    dueWay(t, d, 0, 4, 1, 9, 1);
    dueWay(t, d, 1, 10, 3, 10, 1);
    dueWay(t, d, 3, 2, 1, 12, 1);
    dueWay(t, d, 5, 2, 3, 14, 1);
    dueWay(t, d, 6, 0, 1, 15, 1);
    d.counts(1, 5);
    dueWay(t, d, 3, 14, 5, 54, 5);
    for (int wrong : new int[] {-1, 11, MIN, MAX}) {
      t.due("17: half = " + wrong, -1, d.way(1, 0, wrong, 0));
    }
    for (int wrong : new int[] {-1, 4, MIN, MAX}) {
      t.due("17: what = " + wrong, -1, d.way(1, 0, 0, wrong));
      t.due("17: marcher = " + wrong, -1, d.way(1, wrong, 0, 0));
      t.due("17: picture = " + wrong, -1, d.way(wrong, 0, 0, 0));
    }
    t.due("17: PICTURE 0", -1, d.way(0, 0, 0, 0));
    t.due("17: NONE", -3, d.way(2, 0, 16, 3));
    d.ill(1, true);
    t.due("17: ILL", -5, d.way(1, 1, 0, 0));
    t.due("17: ILL ahead of NONE", -5, d.way(2, 1, 0, 0));
    t.due("17: NUMBER ahead of ILL", -1, d.way(2, 1, 17, 0));
    t.due("17: NUMBER ahead of ILL", -1, d.way(2, 1, 0, 4));
  }

  private static void promise18(Due t) {
    DotsOnGrass d = room(3, 3);
    t.due("18: NONE", -3, d.closest(1, 0, 1));
    d.line(0, 2, 0, 0, 6, 0);
    put(d, 0, 40, 40);
    // 0 goes from (0, 0) to (4, 0), 1 from (6, 0) to (6, 5)
    put(d, 1, 4, 0);
    put(d, 1, 6, 5);
    put(d, 1, 40, 35);
    d.counts(1, 2);
    dueSet(t, "18", d, 1, 0, 1, 2);
    // times 4: (20, 5), (16, 10), (12, 15): least of 20, 16, 15
    t.due("18: closest", 15, d.closest(1, 0, 1));
    t.due("18: closest", 15, d.closest(1, 1, 0));
    // times 4: 136 by x, and 150, 140, 130 by y
    t.due("18: closest", 136, d.closest(1, 2, 1));
    d.counts(1, 4);
    // times 8, at t: (48 - 4 t, 5 t): 28 and 25 at 5, 24 and 30 at 6
    t.due("18: closest", 28, d.closest(1, 0, 1));
    d.rule(0, 0);
    t.due("18: closest", 28, d.closest(1, 0, 1));
    for (int wrong : new int[] {-1, 3, MIN, MAX}) {
      t.due("18: marcher = " + wrong, -1, d.closest(1, wrong, 0));
      t.due("18: other = " + wrong, -1, d.closest(1, 0, wrong));
      t.due("18: picture = " + wrong, -1, d.closest(wrong, 0, 1));
    }
    t.due("18: PICTURE 0", -1, d.closest(0, 0, 1));
    t.due("18: the same", -1, d.closest(1, 1, 1));
    t.due("18: NONE", -3, d.closest(2, 0, 1));
    d.ill(1, true);
    t.due("18: ILL", -5, d.closest(1, 0, 1));
    t.due("18: ILL", -5, d.closest(1, 1, 0));
    t.due("18: ILL ahead of NONE", -5, d.closest(2, 1, 0));
    t.due("18: NUMBER ahead of ILL", -1, d.closest(1, 1, 1));
  }

  private static void promise19(Due t) {
    DotsOnGrass d = room(2, 2);
    t.due("19: NONE", -3, d.late(0, 0));
    put(d, 0, 3, 2);
    put(d, 0, 22, 17);
    t.due("19: 17 and 2 by 10", 1, d.late(0, 0));
    t.due("19: 2 and 17 by 10", 1, d.late(0, 1));
    d.rule(1, 20);
    t.due("19: 19 by 20", 0, d.late(0, 0));
    d.rule(1, 19);
    t.due("19: 19 by 19", 1, d.late(0, 0));
    d.drums(5, 30);
    d.rule(1, 3);
    t.due("19: 2 and 28 by 3", 10, d.late(0, 0));
    t.due("19: 17 and 13 by 3", 10, d.late(0, 1));
    for (int wrong : new int[] {-1, 2, MIN, MAX}) {
      t.due("19: marcher = " + wrong, -1, d.late(0, wrong));
      t.due("19: picture = " + wrong, -1, d.late(wrong, 0));
    }
    t.due("19: NONE", -3, d.late(1, 0));
    d.ill(0, true);
    t.due("19: ILL", -5, d.late(0, 0));
    t.due("19: ILL ahead of NONE", -5, d.late(1, 0));
  }

  private static void promise20(Due t) {
    DotsOnGrass d = room(3, 0);
    t.due("20: no PICTURES", 0, d.hole(0));
    d.picture(8);
    t.due("20: none, nor would there be", 0, d.hole(0));
    d.line(0, 3, 0, 0, 3, 0);
    t.due("20: two move up", 2, d.hole(0));
    t.due("20: one moves up", 1, d.hole(1));
    t.due("20: none moves up", 0, d.hole(2));
    d.picture(8);
    d.line(1, 3, 0, 4, 3, 0);
    t.due("20: two in both", 4, d.hole(0));
    t.due("20: it changes nothing", 3, d.many(1));
    dueSet(t, "20: it changes nothing", d, 1, 0, 1, 2);
    d.ill(1, true);
    t.due("20: one in both", 2, d.hole(0));
    t.due("20: ILL", -5, d.hole(1));
    for (int wrong : new int[] {-1, 3, MIN, MAX}) {
      t.due("20: hole(" + wrong + ")", -1, d.hole(wrong));
    }
    d.ill(0, true);
    t.due("20: the last one", 0, d.hole(2));
  }

  private static void promise20None(Due t) {
    // with all SOLOS none may be missing
    DotsOnGrass d = room(4, 1);
    d.line(0, 4, 0, 0, 3, 0);
    for (int dot = 0; dot < 4; dot++) {
      d.solo(0, dot, true);
    }
    t.due("20: has one and would have none", 3, d.hole(3));
    d.ill(0, true);
    t.due("20: none, nor would there be", 0, d.hole(3));
    d.solo(0, 0, false);
    t.due("20: of those who are PRESENT", 2, d.hole(3));
    // one MARCHER too many
    DotsOnGrass e = room(4, 2);
    e.line(0, 3, 0, 0, 3, 0);
    e.line(1, 4, 0, 0, 3, 0);
    t.due("20: has none and would have one", 6, e.hole(2));
    e.solo(1, 0, true);
    e.scrub(1);
    e.scrub(1);
    t.due("20: in PICTURE 0 alone", 3, e.hole(2));
  }

  private static void promise21(Due t) {
    DotsOnGrass d = new DotsOnGrass();
    t.due("21: no PICTURES", 0, d.ready());
    d.picture(1);
    d.picture(1);
    t.due("21: nobody, no DOTS", 2, d.ready());
    d.line(0, 2, 0, 0, 1, 0);
    t.due("21: nobody", 2, d.ready());
    d.solo(0, 1, true);
    t.due("21: a SOLO and nobody", 0, d.ready());
    d.marcher(1);
    t.due("21: PICTURE 0", 1, d.ready());
    put(d, 1, 3, 0);
    t.due("21: too far", 1, d.ready());
    put(d, 1, 2, 0);
    t.due("21: both", 2, d.ready());
    d.picture(1);
    d.picture(1);
    put(d, 3, 0, 0);
    t.due("21: a gap", 2, d.ready());
    put(d, 2, 1, 0);
    t.due("21: all", 4, d.ready());
    d.solo(1, 0, true);
    t.due("21: the SOLO is too far", 1, d.ready());
  }

  private static void promise22(Due t) {
    DotsOnGrass d = room(3, 3);
    d.ill(1, true);
    d.line(0, 3, 0, 0, 10, 0);
    d.line(1, 2, 0, 5, 10, 0);
    d.solo(1, 0, true);
    d.solo(1, 1, true);
    d.solo(0, 0, true);
    t.due("22: MARCHERS", 3, d.many(0));
    t.due("22: PRESENT", 2, d.many(1));
    t.due("22: PICTURES", 3, d.many(2));
    t.due("22: DOTS", 5, d.many(3));
    t.due("22: SOLOS", 3, d.many(4));
    t.due("22: STEPS", 10, d.many(5));
    d.line(2, 2, 2, 6, 10, 0);
    t.due("22: STEPS", 14, d.many(5));
    d.scrub(1);
    t.due("22: SOLOS", 2, d.many(4));
    t.due("22: STEPS of none", 0, d.many(5));
    for (int wrong : new int[] {-1, 6, MIN, MAX}) {
      t.due("22: many(" + wrong + ")", -1, d.many(wrong));
    }
  }

  private static void promises23And24(Due t) {
    DotsOnGrass d = room(1, 1);
    t.due("24: NONE", -3, d.back());
    d.line(0, 2, 1, 2, 3, 4);
    d.solo(0, 1, true);
    t.due("23: keep()", 1, d.keep());
    d.marcher(1);
    d.ill(0, true);
    d.bound(0, 1);
    d.picture(1);
    d.counts(0, 16);
    d.solo(0, 0, true);
    d.scrub(0);
    put(d, 0, 9, 9);
    put(d, 0, 8, 8);
    d.rule(0, 3);
    d.rule(1, 3);
    d.drums(40, 40);
    t.due("24: back()", 1, d.back());
    dueKept(t, d);
    t.due("24: it stays", 1, d.back());
    dueKept(t, d);
    d.back();
    d.scrub(0);
    d.keep();
    d.scrub(0);
    t.due("24: back()", 1, d.back());
    t.due("24: the latest", 1, d.many(3));
    t.due("23: another one's is its own", -3, new DotsOnGrass().back());
  }

  /** Asks for all of it, and changes it on the way. */
  private static void dueKept(Due t, DotsOnGrass d) {
    t.due("24: MARCHERS", 1, d.many(0));
    t.due("24: PRESENT", 1, d.many(1));
    t.due("24: PICTURES", 1, d.many(2));
    t.due("24: DOTS", 2, d.many(3));
    t.due("24: SOLOS", 1, d.many(4));
    t.due("24: x", 4, d.dot(0, 1, 0));
    t.due("24: y", 6, d.dot(0, 1, 1));
    t.due("24: solo", 1, d.dot(0, 1, 2));
    t.due("24: solo", 0, d.dot(0, 0, 2));
    t.due("24: set", 1, d.set(0, 0));
    t.due("24: BOUND", 4, d.bound(0, 2));
    t.due("24: COUNTS", 8, d.counts(0, 2));
    t.due("24: SPEED", 10, d.rule(1, 1));
    t.due("24: late", 22, d.late(0, 0));
    t.due("24: APART", 1, d.rule(0, 2));
  }

  private static void promise24Settings(Due t) {
    DotsOnGrass d = room(2, 2);
    d.line(0, 2, 0, 0, 5, 0);
    d.line(1, 3, 0, 5, 5, 0);
    dueSet(t, "24: ahead", d, 1, 0, 1);
    d.keep();
    d.solo(1, 2, true);
    dueSet(t, "24: changed", d, 1, 0, 2);
    d.back();
    dueSet(t, "24: as it was", d, 1, 0, 1);
    d.ill(0, true);
    t.due("24: changed", 0, d.set(1, 1));
    d.back();
    dueSet(t, "24: as it was", d, 1, 0, 1);
    d.counts(1, 1);
    dueSet(t, "24: changed", d, 1, -3, -3);
    d.back();
    dueSet(t, "24: as it was", d, 1, 0, 1);
    t.due("24: STEPS", 10, d.many(5));
    d.picture(3);
    d.back();
    d.picture(4);
    t.due("24: a new one begins anew", -3, d.scrub(2));
    t.due("24: a new one begins anew", 4, d.counts(2, 4));
  }
}
