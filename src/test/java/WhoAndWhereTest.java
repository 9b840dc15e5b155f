/** Promises 1 to 14: who marches, and where the dots are. */
public final class WhoAndWhereTest {
  private static final int MIN = Integer.MIN_VALUE;
  private static final int MAX = Integer.MAX_VALUE;

  public static void main(String[] args) {
    Due t = new Due("who and where");
    promise1(t);
    promise2(t);
    promise3(t);
    promise4(t);
    promise5(t);
    promise6(t);
    promise7(t);
    promise7Places(t);
    promise8(t);
    promise9(t);
    promise10(t);
    promise11(t);
    promise12(t);
    promise13(t);
    promise14(t);
    t.end();
  }

  private static DotsOnGrass withPicture() {
    DotsOnGrass d = new DotsOnGrass();
    d.picture(4);
    return d;
  }

  private static void dueAt(Due t, DotsOnGrass d, int dot, int x, int y) {
    t.due("x of dot " + dot, x, d.dot(0, dot, 0));
    t.due("y of dot " + dot, y, d.dot(0, dot, 1));
    t.due("solo of dot " + dot, 0, d.dot(0, dot, 2));
  }

  private static void promise1(Due t) {
    DotsOnGrass d = new DotsOnGrass();
    for (int what = 0; what <= 5; what++) {
      t.due("1: many(" + what + ")", 0, d.many(what));
    }
    t.due("1: ready()", 0, d.ready());
    t.due("1: back()", -3, d.back());
    t.due("1: set(0, 0)", -1, d.set(0, 0));
    t.due("1: hole(0)", -1, d.hole(0));
    t.due("1: dot(0, 0, 0)", -1, d.dot(0, 0, 0));
    t.due("1: scrub(0)", -1, d.scrub(0));
    t.due("1: APART", 1, d.rule(0, 0));
    t.due("1: SPEED", 10, d.rule(1, 1));
    DotsOnGrass other = new DotsOnGrass();
    t.due("1: APART of another one", 1, other.rule(0, 1));
    other.marcher(1);
    other.picture(1);
    other.rule(1, 1);
    other.line(0, 1, 20, 0, 0, 0);
    t.due("1: DRUMS at (20, 0)", 0, other.late(0, 0));
  }

  private static void promise2(Due t) {
    DotsOnGrass d = new DotsOnGrass();
    for (int bound : new int[] {0, 5, -1, MIN, MAX}) {
      t.due("2: marcher(" + bound + ")", -1, d.marcher(bound));
    }
    t.due("2: none came", 0, d.many(0));
    for (int m = 0; m < 6; m++) {
      t.due("2: marcher", m, d.marcher(m % 4 + 1));
      t.due("2: it is PRESENT", m + 1, d.many(1));
    }
    t.due("2: FULL", -2, d.marcher(1));
    t.due("2: NUMBER ahead of FULL", -1, d.marcher(5));
    t.due("2: many(0)", 6, d.many(0));
    for (int m = 0; m < 6; m++) {
      t.due("2: its BOUND", m % 4 + 1, d.bound(m, 1));
    }
  }

  private static void promise3(Due t) {
    DotsOnGrass d = new DotsOnGrass();
    t.due("3: ill(0)", -1, d.ill(0, true));
    d.marcher(1);
    d.marcher(1);
    t.due("3: is PRESENT already", 0, d.ill(1, false));
    t.due("3: ILL is new", 1, d.ill(1, true));
    t.due("3: ILL isn't new", 0, d.ill(1, true));
    t.due("3: many(1)", 1, d.many(1));
    t.due("3: PRESENT is new", 1, d.ill(1, false));
    t.due("3: many(1)", 2, d.many(1));
    for (int m : new int[] {2, -1, MIN, MAX}) {
      t.due("3: ill(" + m + ")", -1, d.ill(m, true));
    }
    t.due("3: many(1)", 2, d.many(1));
  }

  private static void promise4(Due t) {
    DotsOnGrass d = new DotsOnGrass();
    t.due("4: bound(0, 1)", -1, d.bound(0, 1));
    d.marcher(3);
    d.marcher(2);
    t.due("4: what it was", 3, d.bound(0, 4));
    t.due("4: what it was", 4, d.bound(0, 1));
    t.due("4: the other one's", 2, d.bound(1, 2));
    for (int v : new int[] {0, 5, MIN, MAX}) {
      t.due("4: bound(0, " + v + ")", -1, d.bound(0, v));
    }
    for (int m : new int[] {2, -1, MIN, MAX}) {
      t.due("4: bound(" + m + ", 1)", -1, d.bound(m, 1));
    }
    t.due("4: unchanged", 1, d.bound(0, 1));
    d.ill(0, true);
    t.due("4: of an ILL one", 1, d.bound(0, 2));
  }

  private static void promise5(Due t) {
    DotsOnGrass d = new DotsOnGrass();
    for (int counts : new int[] {0, 17, -1, MIN, MAX}) {
      t.due("5: picture(" + counts + ")", -1, d.picture(counts));
    }
    for (int p = 0; p < 5; p++) {
      t.due("5: picture", p, d.picture(p == 0 ? 16 : p));
      t.due("5: without DOTS", -3, d.scrub(p));
    }
    t.due("5: FULL", -2, d.picture(1));
    t.due("5: NUMBER ahead of FULL", -1, d.picture(17));
    t.due("5: many(2)", 5, d.many(2));
    t.due("5: its COUNTS", 16, d.counts(0, 1));
    t.due("5: its COUNTS", 4, d.counts(4, 1));
  }

  private static void promise6(Due t) {
    DotsOnGrass d = new DotsOnGrass();
    t.due("6: counts(0, 1)", -1, d.counts(0, 1));
    d.picture(5);
    d.picture(6);
    t.due("6: what they were", 5, d.counts(0, 16));
    t.due("6: what they were", 16, d.counts(0, 1));
    t.due("6: of the other one", 6, d.counts(1, 6));
    for (int v : new int[] {0, 17, MIN, MAX}) {
      t.due("6: counts(0, " + v + ")", -1, d.counts(0, v));
    }
    for (int p : new int[] {2, -1, MIN, MAX}) {
      t.due("6: counts(" + p + ", 1)", -1, d.counts(p, 1));
    }
    t.due("6: unchanged", 1, d.counts(0, 1));
  }

  private static void promise7(Due t) {
    DotsOnGrass d = withPicture();
    for (int p : new int[] {1, -1, MIN, MAX}) {
      t.due("7: line(" + p + ", ..)", -1, d.line(p, 1, 0, 0, 0, 0));
    }
    for (int n : new int[] {0, 8, MIN, MAX}) {
      t.due("7: n = " + n, -1, d.line(0, n, 0, 0, 1, 1));
    }
    for (int by : new int[] {-11, 11, MIN, MAX}) {
      t.due("7: dx = " + by, -1, d.line(0, 1, 20, 20, by, 0));
      t.due("7: dy = " + by, -1, d.line(0, 1, 20, 20, 0, by));
    }
    t.due("7: NUMBER ahead of PLACE", -1, d.line(0, 1, 41, 0, 11, 0));
    t.due("7: nothing came", 0, d.many(3));
    t.due("7: two", 2, d.line(0, 2, 10, 10, -10, 10));
    t.due("7: and three", 5, d.line(0, 3, 40, 40, 0, -10));
    dueAt(t, d, 0, 10, 10);
    dueAt(t, d, 1, 0, 20);
    dueAt(t, d, 2, 40, 40);
    dueAt(t, d, 4, 40, 20);
    t.due("7: no DOT 5", -1, d.dot(0, 5, 0));
    t.due("7: FULL", -2, d.line(0, 3, 0, 0, 1, 0));
    t.due("7: FULL ahead of PLACE", -2, d.line(0, 3, 41, 0, 0, 0));
    t.due("7: NUMBER ahead of FULL", -1, d.line(0, 8, 0, 0, 1, 0));
    t.due("7: nothing came", 5, d.many(3));
    t.due("7: just full", 7, d.line(0, 2, 30, 0, 10, 0));
    t.due("7: FULL", -2, d.line(0, 1, 0, 0, 0, 0));
    t.due("7: seven at once", 7, lineOfSeven());
  }

  private static int lineOfSeven() {
    return withPicture().line(0, 7, 40, 0, -6, 6);
  }

  private static void promise7Places(Due t) {
    DotsOnGrass d = withPicture();
    t.due("7: own DOTS at one place", -4, d.line(0, 2, 5, 5, 0, 0));
    t.due("7: one alone", 1, d.line(0, 1, 5, 5, 0, 0));
    t.due("7: where one is", -4, d.line(0, 1, 5, 5, 1, 1));
    t.due("7: the last where one is", -4, d.line(0, 3, 3, 7, 1, -1));
    int[][] off = {{41, 0}, {-1, 0}, {0, 41}, {0, -1}, {MAX, 0}, {MIN, 0}, {0, MAX}, {0, MIN}};
    for (int[] place : off) {
      t.due("7: off at " + place[0] + ", " + place[1], -4,
          d.line(0, 1, place[0], place[1], 0, 0));
      t.due("7: off at " + place[0] + ", " + place[1], -4,
          d.line(0, 6, place[0], place[1], 10, 10));
    }
    t.due("7: the last off", -4, d.line(0, 2, 31, 0, 10, 0));
    t.due("7: the last off", -4, d.line(0, 2, 0, 9, 0, -10));
    t.due("7: nothing came", 1, d.many(3));
    t.due("7: to the ends of GRASS", 3, d.line(0, 2, 30, 10, 10, -10));
    dueAt(t, d, 2, 40, 0);
    d.picture(1);
    t.due("7: the same place in another PICTURE", 1, d.line(1, 1, 5, 5, 0, 0));
  }

  private static void promise8(Due t) {
    DotsOnGrass d = withPicture();
    for (int p : new int[] {1, -1, MIN, MAX}) {
      t.due("8: block(" + p + ", ..)", -1, d.block(p, 0, 0, 1, 1, 1));
    }
    for (int side : new int[] {0, 5, MIN, MAX}) {
      t.due("8: w = " + side, -1, d.block(0, 0, 0, side, 1, 1));
      t.due("8: h = " + side, -1, d.block(0, 0, 0, 1, side, 1));
    }
    for (int gap : new int[] {0, 6, MIN, MAX}) {
      t.due("8: gap = " + gap, -1, d.block(0, 0, 0, 1, 1, gap));
    }
    t.due("8: FULL ahead of PLACE", -2, d.block(0, 41, 0, 4, 2, 1));
    t.due("8: FULL", -2, d.block(0, 0, 0, 4, 4, 1));
    t.due("8: NUMBER ahead of FULL", -1, d.block(0, 0, 0, 4, 4, 6));
    t.due("8: a row off", -4, d.block(0, 0, 36, 1, 2, 5));
    t.due("8: a column off", -4, d.block(0, 36, 0, 2, 1, 5));
    t.due("8: off", -4, d.block(0, MAX, MAX, 2, 3, 5));
    t.due("8: off", -4, d.block(0, 0, -1, 1, 1, 1));
    t.due("8: nothing came", 0, d.many(3));
    t.due("8: two rows of three", 6, d.block(0, 30, 35, 3, 2, 5));
    dueAt(t, d, 0, 30, 35);
    dueAt(t, d, 1, 35, 35);
    dueAt(t, d, 2, 40, 35);
    dueAt(t, d, 3, 30, 40);
    dueAt(t, d, 5, 40, 40);
    t.due("8: where one is", -4, d.block(0, 35, 40, 1, 1, 2));
    t.due("8: FULL", -2, d.block(0, 0, 0, 2, 1, 1));
    t.due("8: one alone", 7, d.block(0, 0, 0, 1, 1, 5));
    t.due("8: FULL", -2, d.block(0, 1, 1, 1, 1, 1));
    DotsOnGrass e = withPicture();
    t.due("8: four rows of one", 4, e.block(0, 3, 2, 1, 4, 2));
    dueAt(t, e, 3, 3, 8);
  }

  private static void promise9(Due t) {
    DotsOnGrass d = withPicture();
    for (int p : new int[] {1, -1, MIN, MAX}) {
      t.due("9: corner(" + p + ", ..)", -1, d.corner(p, 0, 0, 1, 1));
    }
    for (int n : new int[] {0, 5, MIN, MAX}) {
      t.due("9: n = " + n, -1, d.corner(0, 0, 0, n, 1));
    }
    for (int gap : new int[] {0, 6, MIN, MAX}) {
      t.due("9: gap = " + gap, -1, d.corner(0, 0, 0, 1, gap));
    }
    t.due("9: the last off", -4, d.corner(0, 0, 26, 4, 5));
    t.due("9: off along x", -4, d.corner(0, 26, 0, 4, 5));
    t.due("9: off", -4, d.corner(0, MAX, 0, 4, 5));
    t.due("9: off", -4, d.corner(0, 0, MIN, 1, 5));
    t.due("9: nothing came", 0, d.many(3));
    t.due("9: one alone", 1, d.corner(0, 40, 40, 1, 5));
    t.due("9: FULL ahead of PLACE", -2, d.corner(0, 41, 0, 4, 5));
    t.due("9: NUMBER ahead of FULL", -1, d.corner(0, 41, 0, 4, 6));
    t.due("9: where one is", -4, d.corner(0, 38, 38, 2, 2));
    t.due("9: a corner of three", 6, d.corner(0, 1, 2, 3, 4));
    dueAt(t, d, 1, 1, 2);
    dueAt(t, d, 2, 5, 2);
    dueAt(t, d, 3, 9, 2);
    dueAt(t, d, 4, 9, 6);
    dueAt(t, d, 5, 9, 10);
    t.due("9: FULL", -2, d.corner(0, 20, 20, 2, 1));
    t.due("9: just full", 7, d.corner(0, 20, 20, 1, 1));
    DotsOnGrass e = withPicture();
    t.due("9: a corner of seven", 7, e.corner(0, 25, 25, 4, 5));
    dueAt(t, e, 6, 40, 40);
  }

  private static void promise10(Due t) {
    DotsOnGrass d = withPicture();
    t.due("10: no DOT", -1, d.solo(0, 0, true));
    d.line(0, 2, 0, 0, 1, 0);
    t.due("10: isn't one already", 0, d.solo(0, 1, false));
    t.due("10: is new", 1, d.solo(0, 1, true));
    t.due("10: isn't new", 0, d.solo(0, 1, true));
    t.due("10: it is one", 1, d.dot(0, 1, 2));
    t.due("10: the other one isn't", 0, d.dot(0, 0, 2));
    t.due("10: many(4)", 1, d.many(4));
    for (int wrong : new int[] {2, -1, 7, MIN, MAX}) {
      t.due("10: solo(0, " + wrong + ")", -1, d.solo(0, wrong, true));
      t.due("10: solo(" + wrong + ", 0)", -1, d.solo(wrong, 0, true));
    }
    t.due("10: no more is new", 1, d.solo(0, 1, false));
    t.due("10: many(4)", 0, d.many(4));
  }

  private static void promise11(Due t) {
    DotsOnGrass d = withPicture();
    t.due("11: NONE", -3, d.scrub(0));
    for (int p : new int[] {1, -1, MIN, MAX}) {
      t.due("11: scrub(" + p + ")", -1, d.scrub(p));
    }
    d.line(0, 3, 0, 0, 1, 0);
    d.solo(0, 2, true);
    t.due("11: the latest is no more", 2, d.scrub(0));
    t.due("11: no DOT 2", -1, d.dot(0, 2, 0));
    t.due("11: its SOLO is no more", 0, d.many(4));
    t.due("11: its place is free", 3, d.line(0, 1, 2, 0, 0, 0));
    t.due("11: the new one is no SOLO", 0, d.dot(0, 2, 2));
    dueAt(t, d, 1, 1, 0);
    t.due("11: two", 2, d.scrub(0));
    t.due("11: one", 1, d.scrub(0));
    t.due("11: no more", 0, d.scrub(0));
    t.due("11: NONE", -3, d.scrub(0));
    t.due("11: many(3)", 0, d.many(3));
  }

  private static void promise12(Due t) {
    DotsOnGrass d = new DotsOnGrass();
    t.due("12: APART was", 1, d.rule(0, 3));
    t.due("12: APART was", 3, d.rule(0, 0));
    t.due("12: SPEED was", 10, d.rule(1, 20));
    t.due("12: SPEED was", 20, d.rule(1, 1));
    for (int v : new int[] {-1, 4, MIN, MAX}) {
      t.due("12: rule(0, " + v + ")", -1, d.rule(0, v));
    }
    for (int v : new int[] {0, 21, -1, MIN, MAX}) {
      t.due("12: rule(1, " + v + ")", -1, d.rule(1, v));
    }
    for (int what : new int[] {-1, 2, MIN, MAX}) {
      t.due("12: rule(" + what + ", 1)", -1, d.rule(what, 1));
    }
    t.due("12: APART unchanged", 0, d.rule(0, 0));
    t.due("12: SPEED unchanged", 1, d.rule(1, 1));
  }

  private static void promise13(Due t) {
    DotsOnGrass d = withPicture();
    d.marcher(1);
    d.line(0, 1, 0, 0, 0, 0);
    d.rule(1, 1);
    t.due("13: late at first", 20, d.late(0, 0));
    t.due("13: drums(40, 40)", 1, d.drums(40, 40));
    t.due("13: late", 80, d.late(0, 0));
    for (int wrong : new int[] {-1, 41, MIN, MAX}) {
      t.due("13: drums(" + wrong + ", 0)", -4, d.drums(wrong, 0));
      t.due("13: drums(0, " + wrong + ")", -4, d.drums(0, wrong));
    }
    t.due("13: unchanged", 80, d.late(0, 0));
    t.due("13: drums(0, 3)", 1, d.drums(0, 3));
    t.due("13: late", 3, d.late(0, 0));
    t.due("13: drums(5, 0)", 1, d.drums(5, 0));
    t.due("13: late", 5, d.late(0, 0));
  }

  private static void promise14(Due t) {
    DotsOnGrass d = withPicture();
    t.due("14: no DOT", -1, d.dot(0, 0, 0));
    d.line(0, 2, 7, 9, 3, 5);
    d.solo(0, 1, true);
    t.due("14: x", 10, d.dot(0, 1, 0));
    t.due("14: y", 14, d.dot(0, 1, 1));
    t.due("14: a SOLO", 1, d.dot(0, 1, 2));
    t.due("14: no SOLO", 0, d.dot(0, 0, 2));
    for (int wrong : new int[] {-1, 3, MIN, MAX}) {
      t.due("14: what = " + wrong, -1, d.dot(0, 0, wrong));
      t.due("14: dot = " + wrong, -1, d.dot(0, wrong, 0));
      t.due("14: picture = " + wrong, -1, d.dot(wrong, 0, 0));
    }
    t.due("14: dot = 2", -1, d.dot(0, 2, 0));
    t.due("14: picture = 1", -1, d.dot(1, 0, 0));
  }
}
