/** The document's Terms 1 to 3 at their limits: how far, how near, how many, how late. */
public final class TermsLimitsTest {
  private static final int NUMBER = Limits.NUMBER;
  private static final int FULL = Limits.FULL;
  private static final int NONE = Limits.NONE;

  private final Limits t = new Limits("terms at their limits");

  public static void main(String[] args) {
    new TermsLimitsTest().run();
  }

  private void run() {
    mostThatCome();
    reach();
    reachOfEach();
    nearAllTheWay();
    nearByAPart();
    nearAtTheEnds();
    nearByXAndY();
    dotsAndMarchers();
    solosAndMarchers();
    nobody();
    leastOfSeveral();
    noneAhead();
    late();
    t.end();
  }

  /** Term 1: as many as may be, one after another, and not one more. */
  private void mostThatCome() {
    t.then(Room.EMPTY, "marcher(1)", 0, "marcher(1)", 1, "marcher(1)", 2, "marcher(1)", 3,
        "marcher(1)", 4, "marcher(1)", 5, "marcher(1)", FULL, "ill(5, true)", 1,
        "marcher(1)", FULL, "ill(6, true)", NUMBER);
    t.then(Room.EMPTY, "picture(1)", 0, "picture(1)", 1, "picture(1)", 2, "picture(1)", 3,
        "picture(1)", 4, "picture(1)", FULL, "counts(4, 2)", 1, "counts(5, 2)", NUMBER);
    t.then(Room.NO_DOTS, "line(0, 1, 0, 0, 0, 0)", 1, "line(0, 1, 1, 0, 0, 0)", 2,
        "line(0, 1, 2, 0, 0, 0)", 3, "line(0, 1, 3, 0, 0, 0)", 4, "line(0, 1, 4, 0, 0, 0)", 5,
        "line(0, 1, 5, 0, 0, 0)", 6, "line(0, 1, 6, 0, 0, 0)", 7, "line(0, 1, 7, 0, 0, 0)", FULL,
        "line(1, 1, 7, 0, 0, 0)", 1, "dot(0, 6, 0)", 6, "dot(0, 7, 0)", NUMBER);
  }

  /** One MARCHER from (x, y) by a STEP: just within its BOUND times COUNTS, and just beyond. */
  private void reach() {
    int[][] boundCountsReach = {
      {1, 1, 1}, {4, 1, 4}, {1, 16, 16}, {2, 16, 32}, {3, 13, 39}, {4, 9, 36}, {3, 1, 3}, {1, 2, 2}
    };
    for (int[] r : boundCountsReach) {
      int just = r[2];
      int more = just + 1;
      dueReach(r[0], r[1], 0, 0, just, 0, true);
      dueReach(r[0], r[1], 0, 0, more, 0, false);
      dueReach(r[0], r[1], 0, 0, 0, just, true);
      dueReach(r[0], r[1], 0, 0, 0, more, false);
      dueReach(r[0], r[1], 40, 40, 40 - just, 40, true);
      dueReach(r[0], r[1], 40, 40, 40 - more, 40, false);
      dueReach(r[0], r[1], 40, 40, 40, 40 - just, true);
      dueReach(r[0], r[1], 40, 40, 40, 40 - more, false);
      dueReach(r[0], r[1], 0, 0, just, just, true);
      dueReach(r[0], r[1], 0, 40, more, 40 - just, false);
      dueReach(r[0], r[1], 40, 0, 40 - just, more, false);
    }
    // all over GRASS
    dueReach(4, 10, 0, 0, 40, 40, true);
    dueReach(4, 16, 40, 0, 0, 40, true);
    dueReach(1, 1, 7, 7, 7, 7, true);
  }

  private void dueReach(int bound, int counts, int x, int y, int toX, int toY, boolean within) {
    int step = Math.max(Math.abs(toX - x), Math.abs(toY - y));
    t.then(Room.EMPTY, "marcher(" + bound + ")", 0, "picture(1)", 0, "picture(" + counts + ")", 1,
        "line(0, 1, " + x + ", " + y + ", 0, 0)", 1, "line(1, 1, " + toX + ", " + toY + ", 0, 0)", 1,
        "set(1, 0)", within ? 0 : NONE, "steps(1, 0)", within ? step : NONE,
        "steps(1, 1)", within ? step : NONE, "ready()", within ? 2 : 1);
  }

  /** Each one has its own BOUND, and COUNTS are those of the PICTURE that one goes to. */
  private void reachOfEach() {
    t.then(Room.EMPTY, "marcher(1)", 0, "marcher(4)", 1, "picture(16)", 0, "picture(2)", 1,
        "line(0, 2, 0, 0, 0, 10)", 2, "line(1, 1, 2, 0, 0, 0)", 1, "line(1, 1, 8, 10, 0, 0)", 2,
        "ready()", 2, "bound(1, 3)", 4, "ready()", 1, "bound(0, 4)", 1, "ready()", 1,
        "bound(1, 4)", 3, "ready()", 2, "counts(0, 1)", 16, "ready()", 2, "counts(1, 1)", 2,
        "ready()", 1);
    // an ILL one's BOUND is nobody's
    t.then(Room.EMPTY, "marcher(1)", 0, "marcher(4)", 1, "picture(1)", 0, "picture(1)", 1,
        "line(0, 1, 0, 0, 0, 0)", 1, "line(1, 1, 4, 0, 0, 0)", 1, "ready()", 0, "ill(0, true)", 1,
        "ready()", 2, "set(1, 1)", 0);
  }

  /** Two side by side, all the way so far apart. */
  private void nearAllTheWay() {
    for (int apart = 1; apart <= 3; apart++) {
      dueNear(apart, 4, apart, 0, apart, 0, true);
      dueNear(apart, 16, 0, apart, 0, apart, true);
      dueNear(apart, 1, apart, 0, apart, 0, true);
    }
    dueNear(2, 4, 1, 0, 1, 0, false);
    dueNear(3, 4, 2, 0, 2, 0, false);
    dueNear(3, 1, 0, 2, 0, 2, false);
    dueNear(0, 4, 1, 0, 1, 0, true);
    dueNear(1, 4, 1, 0, 1, 0, true);
  }

  /** Just below APART by a part of a step. */
  private void nearByAPart() {
    // half way 2 1/2
    dueNear(3, 1, 3, 0, 2, 0, false);
    dueNear(2, 1, 3, 0, 2, 0, true);
    // at HALF COUNT 1 of 32: 2 31/32; at HALF COUNT 31: 3 1/32
    dueNear(3, 16, 3, 0, 2, 0, false);
    dueNear(3, 16, 4, 0, 3, 0, true);
    dueNear(3, 16, 0, 3, 0, 4, true);
    dueNear(3, 16, 0, 2, 0, 3, false);
    // half way just APART: 2 and 4 to 3, but 2 and 3 to 2 1/2
    dueNear(3, 1, 2, 0, 4, 0, true);
    dueNear(3, 1, 2, 0, 3, 0, false);
    dueNear(2, 1, 1, 0, 3, 0, true);
    dueNear(2, 1, 1, 0, 2, 0, false);
  }

  /** At the first and the last HALF COUNT nothing is asked, at those beside them it is. */
  private void nearAtTheEnds() {
    // 1 apart at first, 9 at last: 5 half way; at HALF COUNT 1 of 4, 3; of 6, 2 1/3
    dueNear(3, 1, 1, 0, 9, 0, true);
    dueNear(3, 2, 1, 0, 9, 0, true);
    dueNear(3, 3, 1, 0, 9, 0, false);
    dueNear(2, 3, 1, 0, 9, 0, true);
    dueNear(3, 1, 9, 0, 1, 0, true);
    dueNear(3, 2, 9, 0, 1, 0, true);
    dueNear(3, 3, 9, 0, 1, 0, false);
    dueNear(2, 3, 9, 0, 1, 0, true);
    // 1 apart in PICTURE 0, where nobody asks
    t.then(Room.NO_DOTS, "rule(0, 3)", 1, "line(0, 2, 0, 0, 1, 0)", 2, "set(0, 1)", 1, "ready()", 1);
  }

  /** It is the greater of both that counts. */
  private void nearByXAndY() {
    dueNear(3, 2, 2, 3, 2, 3, true);
    dueNear(3, 2, 3, 2, 3, 2, true);
    dueNear(3, 2, 2, 2, 2, 2, false);
    // from 3 by x to 3 by y: half way 1 1/2 by both
    dueNear(2, 1, 3, 0, 0, 3, false);
    dueNear(1, 1, 3, 0, 0, 3, true);
    dueNear(3, 1, 6, 0, 0, 6, true);
    // 0 stays and can't do else; 1 goes to its other side, at (20, 20) or (20, 21) half way
    t.then(Room.EMPTY, "marcher(1)", 0, "marcher(4)", 1, "picture(1)", 0, "picture(1)", 1,
        "line(0, 1, 20, 20, 0, 0)", 1, "line(0, 1, 22, 20, 0, 0)", 2, "line(1, 1, 20, 20, 0, 0)", 1,
        "line(1, 1, 18, 20, 0, 0)", 2, "rule(0, 0)", 1, "set(1, 1)", 1, "rule(0, 1)", 0,
        "set(1, 1)", NONE, "scrub(0)", 1, "line(0, 1, 22, 22, 0, 0)", 2, "set(1, 1)", 1,
        "rule(0, 2)", 1, "set(1, 1)", NONE);
  }

  /**
   * MARCHER 1 is so far from MARCHER 0 in PICTURE 0, and then in PICTURE 1; both go half of what is
   * between. To change DOTS is never less far for them: so they go this way, if it MAY be.
   */
  private void dueNear(int apart, int counts, int dx, int dy, int toDx, int toDy, boolean may) {
    int toX = 20 - (toDx - dx) / 2;
    int toY = 20 - (toDy - dy) / 2;
    DotsOnGrass d = new DotsOnGrass();
    d.marcher(4);
    d.marcher(4);
    d.picture(1);
    d.picture(counts);
    d.rule(0, apart);
    d.line(0, 1, 20, 20, 0, 0);
    d.line(0, 1, 20 + dx, 20 + dy, 0, 0);
    d.line(1, 1, toX, toY, 0, 0);
    d.line(1, 1, toX + toDx, toY + toDy, 0, 0);
    String about = "APART " + apart + ", COUNTS " + counts + ", (" + dx + ", " + dy + ") to ("
        + toDx + ", " + toDy + ")";
    boolean goesSo = d.set(1, 0) == 0 && d.set(1, 1) == 1;
    t.holds(about + (may ? " may be" : " may not be"), goesSo == may);
  }

  /** As many DOTS as are PRESENT are enough, one less isn't. */
  private void dotsAndMarchers() {
    t.then(Room.NO_DOTS, "line(0, 1, 0, 0, 0, 0)", 1, "ready()", 0, "set(0, 0)", NONE,
        "line(0, 1, 5, 0, 0, 0)", 2, "ready()", 1, "set(0, 0)", 0, "set(0, 1)", 1,
        "steps(0, 2)", 0);
    t.then(Room.FULL, "scrub(0)", 6, "set(0, 5)", 5, "steps(0, 2)", 0, "scrub(0)", 5,
        "set(0, 5)", NONE, "ill(0, true)", 1, "set(0, 5)", 4, "steps(0, 2)", 0, "ill(0, false)", 1,
        "set(0, 5)", NONE);
    t.then(Room.ALMOST_FULL, "marcher(4)", 5, "set(0, 5)", 5, "scrub(0)", 5, "set(0, 0)", NONE);
  }

  /** As many SOLOS as are PRESENT can be given, one more can't. */
  private void solosAndMarchers() {
    t.then(Room.NO_DOTS, "line(0, 3, 0, 0, 5, 0)", 3, "solo(0, 1, true)", 1, "set(0, 0)", 0,
        "set(0, 1)", 1, "solo(0, 2, true)", 1, "set(0, 0)", 1, "set(0, 1)", 2,
        "solo(0, 0, true)", 1, "set(0, 0)", NONE, "marcher(1)", 2, "set(0, 0)", 0, "set(0, 2)", 2,
        "ill(1, true)", 1, "set(0, 2)", NONE, "solo(0, 1, false)", 1, "set(0, 0)", 0,
        "set(0, 2)", 2);
    t.then(Room.FULL, "solo(0, 6, true)", 1, "set(0, 5)", 6, "solo(0, 5, true)", 1, "set(0, 4)", 5,
        "solo(0, 4, true)", 1, "set(0, 3)", 4, "solo(0, 3, true)", 1, "set(0, 2)", 3,
        "solo(0, 2, true)", 1, "set(0, 1)", 2, "solo(0, 1, true)", 1, "set(0, 0)", 1,
        "steps(0, 2)", 1, "solo(0, 0, true)", 1, "set(0, 0)", NONE, "many(4)", 9);
    // a SOLO in another PICTURE that is just too far
    t.then(Room.EMPTY, "marcher(1)", 0, "picture(1)", 0, "picture(2)", 1,
        "line(0, 1, 0, 0, 0, 0)", 1, "line(1, 3, 0, 1, 0, 1)", 3, "set(1, 0)", 0,
        "solo(1, 1, true)", 1, "set(1, 0)", 1, "solo(1, 1, false)", 1, "solo(1, 2, true)", 1,
        "set(1, 0)", NONE, "bound(0, 2)", 1, "set(1, 0)", 2);
  }

  /** Nobody PRESENT gets no DOT: that is a SETTING, but for a SOLO. */
  private void nobody() {
    t.then(Room.EMPTY, "picture(1)", 0, "ready()", 1, "steps(0, 0)", 0, "steps(0, 1)", 0,
        "steps(0, 2)", 0, "picture(1)", 1, "ready()", 2, "steps(1, 0)", 0, "steps(1, 1)", 0,
        "line(1, 1, 0, 0, 0, 0)", 1, "ready()", 2, "steps(1, 2)", 1, "solo(1, 0, true)", 1,
        "ready()", 1, "steps(1, 2)", NONE, "solo(1, 0, false)", 1, "ready()", 2, "many(5)", 0);
    t.then(Room.NO_DOTS, "ready()", 0, "ill(0, true)", 1, "ready()", 0, "ill(1, true)", 1,
        "ready()", 2, "ill(0, false)", 1, "ready()", 0);
  }

  /** The least greatest STEP, then the least sum, then the lesser DOT of the first MARCHER. */
  private void leastOfSeveral() {
    // both go 5, though if 0 stayed and 1 went 6 the sum would be less
    t.then(Room.NO_DOTS, "rule(0, 0)", 1, "line(0, 2, 10, 20, 5, 0)", 2,
        "line(1, 1, 10, 20, 0, 0)", 1, "line(1, 1, 21, 20, 0, 0)", 2, "line(1, 1, 5, 25, 0, 0)", 3,
        "set(1, 0)", 2, "set(1, 1)", 0, "steps(1, 0)", 5, "steps(1, 1)", 10);
    // all the same but for the DOTS' numbers: 0 takes the lesser one
    t.then(Room.NO_DOTS, "rule(0, 0)", 1, "line(0, 2, 20, 20, 1, 0)", 2,
        "line(1, 1, 21, 26, 0, 0)", 1, "line(1, 1, 20, 26, 0, 0)", 2, "set(1, 0)", 0,
        "set(1, 1)", 1, "steps(1, 0)", 6, "steps(1, 1)", 12);
    // 0 and 1 have one DOT each that is as good, 1 takes the lesser one of two
    t.then(Room.NO_DOTS, "line(0, 1, 10, 10, 0, 0)", 1,
        "line(0, 1, 30, 10, 0, 0)", 2, "line(1, 1, 10, 13, 0, 0)", 1,
        "line(1, 1, 30, 13, 0, 0)", 2, "line(1, 1, 30, 7, 0, 0)", 3, "line(1, 1, 10, 7, 0, 0)", 4,
        "set(1, 0)", 0, "set(1, 1)", 1, "steps(1, 2)", 2);
    // a lesser sum with the same greatest: 1 goes 3 either way, 0 goes 1, not 2
    t.then(Room.NO_DOTS, "line(0, 1, 10, 10, 0, 0)", 1,
        "line(0, 1, 30, 10, 0, 0)", 2, "line(1, 1, 12, 10, 0, 0)", 1,
        "line(1, 1, 11, 10, 0, 0)", 2, "line(1, 1, 30, 13, 0, 0)", 3, "set(1, 0)", 1,
        "set(1, 1)", 2, "steps(1, 0)", 3, "steps(1, 1)", 4);
  }

  /** None behind one that has none; and it is back as soon as that has one. */
  private void noneAhead() {
    t.then(Room.STUCK, "set(2, 0)", NONE, "set(3, 0)", NONE, "set(4, 0)", NONE, "many(5)", 36,
        "counts(2, 16)", 1, "ready()", 5, "counts(0, 1)", 16, "ready()", 5);
    t.then(Room.NO_DOTS, "line(1, 2, 0, 0, 5, 0)", 2, "ready()", 0, "set(1, 0)", NONE,
        "line(0, 2, 0, 0, 5, 0)", 2, "ready()", 2, "set(1, 0)", 0, "scrub(0)", 1, "set(1, 0)", NONE);
  }

  /** Term 3: by SPEED, the rest away. */
  private void late() {
    String[] calls = {"marcher(1)", "picture(1)", "line(0, 1, 40, 40, 0, 0)"};
    t.then(Room.EMPTY, calls[0], 0, calls[1], 0, calls[2], 1, "late(0, 0)", 6, "drums(0, 0)", 1,
        "late(0, 0)", 8, "rule(1, 1)", 10, "late(0, 0)", 80, "rule(1, 20)", 1, "late(0, 0)", 4,
        "drums(0, 1)", 1, "late(0, 0)", 3, "drums(40, 40)", 1, "late(0, 0)", 0,
        "drums(40, 21)", 1, "late(0, 0)", 0, "drums(40, 20)", 1, "late(0, 0)", 1,
        "drums(21, 40)", 1, "late(0, 0)", 0, "drums(20, 40)", 1, "late(0, 0)", 1,
        "drums(20, 21)", 1, "late(0, 0)", 1, "drums(20, 20)", 1, "late(0, 0)", 2);
    t.then(Room.EMPTY, calls[0], 0, calls[1], 0, "line(0, 1, 0, 0, 0, 0)", 1, "late(0, 0)", 2,
        "rule(1, 20)", 10, "late(0, 0)", 1, "drums(19, 0)", 1, "late(0, 0)", 0, "drums(40, 40)", 1,
        "late(0, 0)", 4, "rule(1, 1)", 20, "late(0, 0)", 80);
  }
}
