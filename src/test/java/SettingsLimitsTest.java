/** Promises 15 to 24 at their limits: just outside, at the limit, empty and full. */
public final class SettingsLimitsTest {
  private static final int NUMBER = Limits.NUMBER;
  private static final int FULL = Limits.FULL;
  private static final int NONE = Limits.NONE;
  private static final int ILL = Limits.ILL;

  private final Limits t = new Limits("settings at their limits");

  public static void main(String[] args) {
    new SettingsLimitsTest().run();
  }

  private void run() {
    promise15();
    promise15Told();
    promise16();
    promise16Told();
    promise17Numbers();
    promise17Order();
    promise17Told();
    promise18Numbers();
    promise18Order();
    promise18Told();
    promise19();
    promise20();
    promise20Told();
    promise21();
    promise22();
    promise23();
    promise24();
    promise24Limits();
    lastCalls();
    t.end();
  }

  private void promise15() {
    t.refusedOutside(NUMBER, Room.BAND, "set(%, 0)", 0, 2);
    t.refusedOutside(NUMBER, Room.BAND, "set(0, %)", 0, 2);
    t.refusedOutside(NUMBER, Room.FULL, "set(%, 5)", 0, 4);
    t.refusedOutside(NUMBER, Room.FULL, "set(4, %)", 0, 5);
    t.refusedOutside(NUMBER, Room.NO_MARCHERS, "set(0, %)", 0, -1);
    t.refusedOutside(NUMBER, Room.NO_PICTURES, "set(%, 0)", 0, -1);
    t.refused(ILL, Room.BAND, "set(0, 2)");
    t.refused(ILL, Room.BAND, "set(1, 2)");
    t.refused(ILL, Room.ALL_ILL, "set(0, 0)");
    t.refused(ILL, Room.ALL_ILL, "set(0, 5)");
    t.refused(NONE, Room.NO_DOTS, "set(0, 0)");
    t.refused(NONE, Room.NO_DOTS, "set(1, 1)");
    t.refused(NONE, Room.BAND, "set(2, 0)");
    t.refused(NONE, Room.STUCK, "set(2, 0)");
    t.refused(NONE, Room.STUCK, "set(3, 0)");
    t.refused(NONE, Room.STUCK, "set(4, 4)");
    // NUMBER ahead of ILL, and of NONE
    t.refused(NUMBER, Room.BAND, "set(3, 2)");
    t.refused(NUMBER, Room.BAND, "set(-1, 2)");
    t.refused(NUMBER, Room.BAND, "set(2, 3)");
    t.refused(NUMBER, Room.BAND, "set(2, -1)");
    t.refused(NUMBER, Room.NO_DOTS, "set(0, 2)");
    // ILL ahead of NONE
    t.refused(ILL, Room.BAND, "set(2, 2)");
    t.refused(ILL, Room.STUCK, "set(2, 5)");
    t.refused(ILL, Room.STUCK, "set(4, 5)");
    t.refused(ILL, Room.ALL_ILL, "set(1, 0)");
  }

  private void promise15Told() {
    t.told(0, Room.BAND, "set(0, 0)");
    t.told(1, Room.BAND, "set(0, 1)");
    t.told(0, Room.BAND, "set(1, 0)");
    t.told(1, Room.BAND, "set(1, 1)");
    t.told(0, Room.FULL, "set(0, 0)");
    t.told(5, Room.FULL, "set(0, 5)");
    // the SOLO at DOT 6 is one's who goes no further for it
    t.told(4, Room.FULL, "set(1, 4)");
    t.told(6, Room.FULL, "set(1, 5)");
    t.told(3, Room.STUCK, "set(1, 3)");
    t.told(6, Room.STUCK, "set(1, 4)");
  }

  private void promise16() {
    t.refusedOutside(NUMBER, Room.BAND, "steps(%, 0)", 0, 2);
    t.refusedOutside(NUMBER, Room.FULL, "steps(%, 2)", 0, 4);
    t.refusedOutside(NUMBER, Room.NO_PICTURES, "steps(%, 1)", 0, -1);
    t.refusedOutside(NUMBER, Room.BAND, "steps(0, %)", 0, 2);
    t.refusedOutside(NUMBER, Room.FULL, "steps(4, %)", 0, 2);
    for (int what = 0; what <= 2; what++) {
      t.refused(NONE, Room.NO_DOTS, "steps(0, " + what + ")");
      t.refused(NONE, Room.BAND, "steps(2, " + what + ")");
      t.refused(NONE, Room.STUCK, "steps(2, " + what + ")");
      t.refused(NONE, Room.STUCK, "steps(4, " + what + ")");
      t.refused(NONE, Room.ALL_ILL, "steps(1, " + what + ")");
    }
    // NUMBER ahead of NONE
    t.refused(NUMBER, Room.BAND, "steps(2, 3)");
    t.refused(NUMBER, Room.BAND, "steps(2, -1)");
    t.refused(NUMBER, Room.NO_DOTS, "steps(2, 0)");
    t.refused(NUMBER, Room.NO_DOTS, "steps(-1, 0)");
  }

  private void promise16Told() {
    t.told(0, Room.FULL, "steps(0, 0)");
    t.told(0, Room.FULL, "steps(0, 1)");
    t.told(1, Room.FULL, "steps(0, 2)");
    t.told(6, Room.FULL, "steps(1, 0)");
    t.told(36, Room.FULL, "steps(1, 1)");
    t.told(1, Room.FULL, "steps(1, 2)");
    t.told(12, Room.STUCK, "steps(1, 0)");
    t.told(36, Room.STUCK, "steps(1, 1)");
    t.told(2, Room.STUCK, "steps(1, 2)");
    t.told(0, Room.ALL_ILL, "steps(0, 0)");
    t.told(0, Room.ALL_ILL, "steps(0, 1)");
    t.told(7, Room.ALL_ILL, "steps(0, 2)");
    // nobody has a way to go, and no DOT is given
    t.told(0, Room.NO_MARCHERS, "steps(1, 0)");
    t.told(0, Room.NO_MARCHERS, "steps(1, 1)");
    t.told(0, Room.NO_MARCHERS, "steps(1, 2)");
    t.told(1, Room.NO_MARCHERS, "steps(0, 2)");
    // all DOTS are given
    t.then(Room.BAND, "scrub(0)", 2, "steps(0, 2)", 0, "scrub(1)", 2, "steps(1, 2)", 0);
    // nobody moves
    t.then(Room.NO_DOTS, "line(0, 2, 3, 3, 4, 0)", 2, "line(1, 2, 3, 3, 4, 0)", 2,
        "steps(1, 0)", 0, "steps(1, 1)", 0, "steps(1, 2)", 0);
  }

  private void promise17Numbers() {
    t.refusedOutside(NUMBER, Room.BAND, "way(%, 0, 0, 0)", 1, 2);
    t.refusedOutside(NUMBER, Room.FULL, "way(%, 0, 0, 0)", 1, 4);
    t.refusedOutside(NUMBER, Room.NO_PICTURES, "way(%, 0, 0, 0)", 1, 0);
    t.refusedOutside(NUMBER, Room.BAND, "way(1, %, 0, 0)", 0, 2);
    t.refusedOutside(NUMBER, Room.FULL, "way(4, %, 0, 0)", 0, 5);
    t.refusedOutside(NUMBER, Room.NO_MARCHERS, "way(1, %, 0, 0)", 0, -1);
    t.refusedOutside(NUMBER, Room.BAND, "way(1, 0, %, 0)", 0, 10);
    t.refusedOutside(NUMBER, Room.BAND, "way(2, 0, %, 0)", 0, 12);
    t.refusedOutside(NUMBER, Room.FULL, "way(1, 0, %, 0)", 0, 32);
    t.refusedOutside(NUMBER, Room.STUCK, "way(2, 0, %, 0)", 0, 2);
    t.refusedOutside(NUMBER, Room.BAND, "way(1, 0, 0, %)", 0, 3);
    t.refusedOutside(NUMBER, Room.FULL, "way(4, 5, 32, %)", 0, 3);
    t.refused(ILL, Room.BAND, "way(1, 2, 0, 0)");
    t.refused(ILL, Room.BAND, "way(1, 2, 10, 3)");
    t.refused(ILL, Room.STUCK, "way(1, 5, 32, 0)");
    t.refused(NONE, Room.NO_DOTS, "way(1, 0, 0, 0)");
    t.refused(NONE, Room.BAND, "way(2, 0, 0, 0)");
    t.refused(NONE, Room.BAND, "way(2, 1, 12, 3)");
    t.refused(NONE, Room.STUCK, "way(2, 0, 2, 0)");
    t.refused(NONE, Room.STUCK, "way(3, 0, 32, 0)");
    // one PICTURE alone has no way to it
    t.then(Room.EMPTY, "marcher(1)", 0, "picture(1)", 0, "line(0, 1, 0, 0, 0, 0)", 1,
        "way(0, 0, 0, 0)", NUMBER, "way(1, 0, 0, 0)", NUMBER);
  }

  private void promise17Order() {
    // NUMBER ahead of ILL
    t.refused(NUMBER, Room.BAND, "way(0, 2, 0, 0)");
    t.refused(NUMBER, Room.BAND, "way(3, 2, 0, 0)");
    t.refused(NUMBER, Room.BAND, "way(1, 2, 11, 0)");
    t.refused(NUMBER, Room.BAND, "way(1, 2, -1, 0)");
    t.refused(NUMBER, Room.BAND, "way(1, 2, 0, 4)");
    t.refused(NUMBER, Room.BAND, "way(1, 2, 0, -1)");
    // NUMBER ahead of NONE
    t.refused(NUMBER, Room.NO_DOTS, "way(0, 0, 0, 0)");
    t.refused(NUMBER, Room.BAND, "way(2, 3, 0, 0)");
    t.refused(NUMBER, Room.BAND, "way(2, 0, 13, 0)");
    t.refused(NUMBER, Room.BAND, "way(2, 0, 0, 4)");
    // ILL ahead of NONE
    t.refused(ILL, Room.BAND, "way(2, 2, 0, 0)");
    t.refused(ILL, Room.STUCK, "way(2, 5, 0, 0)");
    t.refused(ILL, Room.ALL_ILL, "way(1, 0, 0, 0)");
  }

  private void promise17Told() {
    // MARCHER 0 goes from (4, 4) to (4, 9) in 5 COUNTS
    t.told(4, Room.BAND, "way(1, 0, 0, 0)");
    t.told(1, Room.BAND, "way(1, 0, 0, 1)");
    t.told(4, Room.BAND, "way(1, 0, 0, 2)");
    t.told(1, Room.BAND, "way(1, 0, 0, 3)");
    t.told(9, Room.BAND, "way(1, 0, 1, 2)");
    t.told(2, Room.BAND, "way(1, 0, 1, 3)");
    t.told(17, Room.BAND, "way(1, 0, 9, 2)");
    t.told(2, Room.BAND, "way(1, 0, 9, 3)");
    t.told(9, Room.BAND, "way(1, 0, 10, 2)");
    t.told(1, Room.BAND, "way(1, 0, 10, 3)");
    // 0 / 1 if it is 0: MARCHER 0 goes from (0, 0) to (0, 6) in 16 COUNTS
    t.told(0, Room.FULL, "way(1, 0, 0, 0)");
    t.told(1, Room.FULL, "way(1, 0, 0, 1)");
    t.told(0, Room.FULL, "way(1, 0, 17, 0)");
    t.told(1, Room.FULL, "way(1, 0, 17, 1)");
    t.told(0, Room.FULL, "way(1, 0, 0, 2)");
    t.told(1, Room.FULL, "way(1, 0, 0, 3)");
    t.told(3, Room.FULL, "way(1, 0, 1, 2)");
    t.told(16, Room.FULL, "way(1, 0, 1, 3)");
    t.told(6, Room.FULL, "way(1, 0, 32, 2)");
    // the HALF COUNTS go with COUNTS
    t.then(Room.BAND, "counts(1, 16)", 5, "way(1, 0, 32, 2)", 9, "way(1, 0, 33, 2)", NUMBER,
        "way(1, 0, 31, 2)", 283, "way(1, 0, 31, 3)", 32);
    t.then(Room.BAND, "counts(1, 3)", 5, "way(1, 0, 6, 2)", 9, "way(1, 0, 7, 2)", NUMBER);
    t.then(Room.BAND, "counts(1, 1)", 5, "way(1, 0, 2, 2)", NONE, "way(1, 0, 3, 2)", NUMBER);
    // the greatest that can be below the line: 32, and above it: 40 at the far end
    t.then(Room.EMPTY, "marcher(4)", 0, "picture(1)", 0, "picture(16)", 1,
        "line(0, 1, 40, 40, 0, 0)", 1, "line(1, 1, 39, 0, 0, 0)", 1, "way(1, 0, 1, 0)", 1279,
        "way(1, 0, 1, 1)", 32, "way(1, 0, 31, 2)", 5, "way(1, 0, 31, 3)", 4,
        "way(1, 0, 32, 2)", 0, "way(1, 0, 32, 3)", 1);
  }

  private void promise18Numbers() {
    t.refusedOutside(NUMBER, Room.BAND, "closest(%, 0, 1)", 1, 2);
    t.refusedOutside(NUMBER, Room.FULL, "closest(%, 0, 1)", 1, 4);
    t.refusedOutside(NUMBER, Room.NO_PICTURES, "closest(%, 0, 1)", 1, 0);
    t.refusedOutside(NUMBER, Room.BAND, "closest(1, %, 0)", 0, 2);
    t.refusedOutside(NUMBER, Room.BAND, "closest(1, 0, %)", 0, 2);
    t.refusedOutside(NUMBER, Room.BAND, "closest(1, %, %)", 0, 2);
    t.refusedOutside(NUMBER, Room.FULL, "closest(4, %, 0)", 0, 5);
    t.refusedOutside(NUMBER, Room.FULL, "closest(4, 0, %)", 0, 5);
    t.refusedOutside(NUMBER, Room.NO_MARCHERS, "closest(1, %, 0)", 0, -1);
    t.refused(NUMBER, Room.BAND, "closest(1, 0, 0)");
    t.refused(NUMBER, Room.BAND, "closest(1, 1, 1)");
    t.refused(NUMBER, Room.FULL, "closest(4, 5, 5)");
    t.refused(ILL, Room.BAND, "closest(1, 0, 2)");
    t.refused(ILL, Room.BAND, "closest(1, 2, 0)");
    t.refused(ILL, Room.ALL_ILL, "closest(4, 0, 5)");
    t.refused(NONE, Room.NO_DOTS, "closest(1, 0, 1)");
    t.refused(NONE, Room.BAND, "closest(2, 0, 1)");
    t.refused(NONE, Room.STUCK, "closest(2, 0, 4)");
    t.refused(NONE, Room.STUCK, "closest(4, 4, 0)");
  }

  private void promise18Order() {
    // NUMBER ahead of ILL
    t.refused(NUMBER, Room.BAND, "closest(0, 0, 2)");
    t.refused(NUMBER, Room.BAND, "closest(3, 2, 0)");
    t.refused(NUMBER, Room.BAND, "closest(1, 2, 2)");
    t.refused(NUMBER, Room.BAND, "closest(1, 2, 3)");
    t.refused(NUMBER, Room.BAND, "closest(1, -1, 2)");
    // NUMBER ahead of NONE
    t.refused(NUMBER, Room.NO_DOTS, "closest(0, 0, 1)");
    t.refused(NUMBER, Room.BAND, "closest(2, 0, 0)");
    t.refused(NUMBER, Room.BAND, "closest(2, 0, 3)");
    t.refused(NUMBER, Room.BAND, "closest(2, 3, 0)");
    // ILL ahead of NONE
    t.refused(ILL, Room.BAND, "closest(2, 0, 2)");
    t.refused(ILL, Room.BAND, "closest(2, 2, 1)");
    t.refused(ILL, Room.STUCK, "closest(2, 0, 5)");
  }

  private void promise18Told() {
    // 6 apart all the way, times 10; and 6 apart, times 32; the farthest two
    t.told(60, Room.BAND, "closest(1, 0, 1)");
    t.told(60, Room.BAND, "closest(1, 1, 0)");
    t.told(192, Room.FULL, "closest(1, 0, 1)");
    // from 30 apart to 36: at HALF COUNT 1, 960 and 6
    t.told(966, Room.FULL, "closest(1, 0, 5)");
    t.told(966, Room.FULL, "closest(1, 5, 0)");
    // 1 COUNT has one HALF COUNT between: from 10 apart to 3, times 2
    t.then(Room.NO_DOTS, "counts(1, 1)", 4, "bound(1, 4)", 3, "bound(0, 4)", 2,
        "line(0, 2, 10, 0, 10, 0)", 2, "line(1, 2, 13, 0, 3, 0)", 2, "closest(1, 0, 1)", 13);
    // neither the first HALF COUNT is asked, nor the last: 2 apart, 10, and back
    t.then(Room.NO_DOTS, "counts(1, 2)", 4, "bound(1, 4)", 3, "bound(0, 4)", 2,
        "line(0, 2, 10, 0, 2, 0)", 2, "line(1, 2, 6, 0, 10, 0)", 2, "closest(1, 0, 1)", 16,
        "counts(1, 1)", 2, "closest(1, 0, 1)", 12);
    // by y alone: from 9 apart to 5, times 2
    t.then(Room.NO_DOTS, "counts(1, 1)", 4, "line(0, 2, 20, 11, 0, 9)", 2,
        "line(1, 2, 20, 13, 0, 5)", 2, "closest(1, 0, 1)", 14, "closest(1, 1, 0)", 14);
    // APART 0: at one place half way
    t.then(Room.NO_DOTS, "counts(1, 1)", 4, "rule(0, 0)", 1, "bound(0, 1)", 2, "bound(1, 4)", 3,
        "line(0, 2, 10, 10, 2, 0)", 2, "line(1, 2, 10, 10, -2, 0)", 2, "closest(1, 0, 1)", 0,
        "rule(0, 1)", 0, "closest(1, 0, 1)", NONE);
  }

  private void promise19() {
    t.refusedOutside(NUMBER, Room.BAND, "late(%, 0)", 0, 2);
    t.refusedOutside(NUMBER, Room.BAND, "late(0, %)", 0, 2);
    t.refusedOutside(NUMBER, Room.FULL, "late(%, 5)", 0, 4);
    t.refusedOutside(NUMBER, Room.FULL, "late(4, %)", 0, 5);
    t.refusedOutside(NUMBER, Room.NO_MARCHERS, "late(0, %)", 0, -1);
    t.refusedOutside(NUMBER, Room.NO_PICTURES, "late(%, 0)", 0, -1);
    t.refused(ILL, Room.BAND, "late(0, 2)");
    t.refused(ILL, Room.ALL_ILL, "late(0, 5)");
    t.refused(NONE, Room.NO_DOTS, "late(0, 0)");
    t.refused(NONE, Room.BAND, "late(2, 0)");
    t.refused(NONE, Room.STUCK, "late(2, 0)");
    t.refused(NONE, Room.STUCK, "late(4, 4)");
    // NUMBER ahead of ILL, and of NONE; ILL ahead of NONE
    t.refused(NUMBER, Room.BAND, "late(3, 2)");
    t.refused(NUMBER, Room.BAND, "late(-1, 2)");
    t.refused(NUMBER, Room.BAND, "late(2, 3)");
    t.refused(NUMBER, Room.NO_DOTS, "late(0, -1)");
    t.refused(ILL, Room.BAND, "late(2, 2)");
    t.refused(ILL, Room.STUCK, "late(4, 5)");
    // DRUMS at (3, 5), MARCHERS at (4, 4) and (10, 4)
    t.told(2, Room.BAND, "late(0, 0)");
    t.told(8, Room.BAND, "late(0, 1)");
    t.told(5, Room.BAND, "late(1, 0)");
    t.told(20, Room.FULL, "late(0, 0)");
    t.told(10, Room.FULL, "late(0, 5)");
  }

  private void promise20() {
    t.refusedOutside(NUMBER, Room.EMPTY, "hole(%)", 0, -1);
    t.refusedOutside(NUMBER, Room.NO_MARCHERS, "hole(%)", 0, -1);
    t.refusedOutside(NUMBER, Room.BAND, "hole(%)", 0, 2);
    t.refusedOutside(NUMBER, Room.FULL, "hole(%)", 0, 5);
    t.refusedOutside(NUMBER, Room.ALL_ILL, "hole(%)", 0, 5);
    t.refused(ILL, Room.BAND, "hole(2)");
    t.refused(ILL, Room.STUCK, "hole(5)");
    t.refused(ILL, Room.ALL_ILL, "hole(0)");
    t.refused(ILL, Room.ALL_ILL, "hole(5)");
    t.then(Room.BAND, "ill(2, false)", 1, "hole(2)", 0, "hole(0)", 4, "ill(2, true)", 1,
        "hole(2)", ILL);
  }

  private void promise20Told() {
    t.told(0, Room.NO_PICTURES, "hole(0)");
    t.told(0, Room.NO_PICTURES, "hole(1)");
    t.told(0, Room.NO_DOTS, "hole(0)");
    // PICTURE 0: 1 moves up; PICTURE 1: DOT 1, a SOLO, again; PICTURE 2 would have a SETTING
    t.told(2, Room.BAND, "hole(0)");
    // PICTURE 0: as before; PICTURE 1: 0 takes the SOLO; PICTURE 2 would have a SETTING
    t.told(2, Room.BAND, "hole(1)");
    // one who is ILL doesn't count, with a DOT that was told of it while it was PRESENT
    t.then(Room.BAND, "ill(2, false)", 1, "set(1, 2)", 2, "ill(2, true)", 1, "hole(0)", 2,
        "hole(1)", 2);
    // nobody stays: neither DOTS nor SETTINGS count
    t.then(Room.EMPTY, "marcher(1)", 0, "hole(0)", 0, "picture(1)", 0, "hole(0)", 0,
        "line(0, 1, 0, 0, 0, 0)", 1, "hole(0)", 0, "solo(0, 0, true)", 1, "hole(0)", 0);
    // a SETTING that would be none counts as all who stay and are PRESENT
    t.then(Room.NO_DOTS, "line(0, 2, 0, 0, 5, 0)", 2, "solo(0, 0, true)", 1, "solo(0, 1, true)", 1,
        "hole(0)", 1, "hole(1)", 1, "marcher(1)", 2, "ill(2, true)", 1, "hole(1)", 1);
    // as many as there are DOTS, and one MARCHER more
    t.then(Room.NO_DOTS, "line(0, 2, 0, 0, 5, 0)", 2, "hole(0)", 1, "hole(1)", 0,
        "marcher(1)", 2, "hole(0)", 2, "hole(2)", 2);
    // six in one PICTURE: all behind the one who leaves move up
    t.then(Room.EMPTY, "marcher(1)", 0, "marcher(1)", 1, "marcher(1)", 2, "marcher(1)", 3,
        "marcher(1)", 4, "marcher(1)", 5, "picture(1)", 0, "line(0, 7, 0, 0, 1, 0)", 7,
        "hole(0)", 5, "hole(4)", 1, "hole(5)", 0, "many(1)", 6, "set(0, 5)", 5);
    // and in five that are all alike: the most there can be
    t.then(Room.EMPTY, "marcher(1)", 0, "marcher(1)", 1, "marcher(1)", 2, "marcher(1)", 3,
        "marcher(1)", 4, "marcher(1)", 5, "picture(1)", 0, "picture(1)", 1, "picture(1)", 2,
        "picture(1)", 3, "picture(1)", 4, "line(0, 7, 0, 0, 1, 0)", 7, "line(1, 7, 0, 0, 1, 0)", 7,
        "line(2, 7, 0, 0, 1, 0)", 7, "line(3, 7, 0, 0, 1, 0)", 7, "line(4, 7, 0, 0, 1, 0)", 7,
        "hole(0)", 25, "hole(5)", 0, "ready()", 5);
  }

  private void promise21() {
    t.told(0, Room.EMPTY, "ready()");
    t.told(0, Room.NO_PICTURES, "ready()");
    t.told(2, Room.NO_MARCHERS, "ready()");
    t.told(0, Room.NO_DOTS, "ready()");
    t.told(2, Room.BAND, "ready()");
    t.told(4, Room.ALMOST_FULL, "ready()");
    t.told(5, Room.FULL, "ready()");
    t.told(2, Room.STUCK, "ready()");
    t.told(1, Room.ALL_ILL, "ready()");
    // nobody PRESENT: a SOLO is all that matters
    t.then(Room.ALL_ILL, "solo(1, 6, false)", 1, "ready()", 3, "solo(3, 6, false)", 1,
        "ready()", 5, "solo(0, 0, true)", 1, "ready()", 0);
    // the last PICTURE alone has none
    t.then(Room.FULL, "scrub(4)", 6, "ready()", 5, "scrub(4)", 5, "ready()", 4);
    // one between has none: those behind it have none, though they have DOTS enough
    t.then(Room.FULL, "scrub(2)", 6, "ready()", 5, "scrub(2)", 5, "ready()", 2);
    t.then(Room.FULL, "scrub(0)", 6, "scrub(0)", 5, "ready()", 0);
  }

  private void promise22() {
    t.refusedOutside(NUMBER, Room.EMPTY, "many(%)", 0, 5);
    t.refusedOutside(NUMBER, Room.BAND, "many(%)", 0, 5);
    t.refusedOutside(NUMBER, Room.FULL, "many(%)", 0, 5);
    int[] band = {3, 2, 3, 7, 1, 10};
    int[] stuck = {6, 5, 5, 35, 2, 36};
    int[] ill = {6, 0, 5, 35, 2, 0};
    int[] noMarchers = {0, 0, 2, 1, 0, 0};
    int[] noPictures = {2, 2, 0, 0, 0, 0};
    int[] noDots = {2, 2, 2, 0, 0, 0};
    int[] full = {6, 6, 5, 35, 2};
    dueMany(Room.BAND, band);
    dueMany(Room.STUCK, stuck);
    dueMany(Room.ALL_ILL, ill);
    dueMany(Room.NO_MARCHERS, noMarchers);
    dueMany(Room.NO_PICTURES, noPictures);
    dueMany(Room.NO_DOTS, noDots);
    dueMany(Room.FULL, full);
  }

  private void dueMany(Room room, int[] want) {
    for (int what = 0; what < want.length; what++) {
      t.told(want[what], room, "many(" + what + ")");
    }
  }

  private void promise23() {
    for (Room room : Room.values()) {
      t.taken(1, room, "keep()");
      t.then(room, "keep()", 1, "keep()", 1, "back()", 1, "back()", 1);
      t.comesBack(room, "");
    }
    t.comesBack(Room.EMPTY, "marcher(1); picture(1); line(0, 7, 0, 0, 1, 0); solo(0, 6, true);"
        + "rule(0, 3); rule(1, 20); drums(40, 40)");
    t.comesBack(Room.NO_DOTS, "line(0, 7, 0, 0, 1, 0); solo(0, 6, true); ready(); ill(1, true)");
    t.comesBack(Room.BAND, "ill(0, true); bound(1, 1); counts(1, 16); scrub(0); scrub(0);"
        + "line(0, 5, 30, 30, 1, 1); solo(0, 4, true); rule(0, 0); rule(1, 7); drums(0, 40);"
        + "marcher(1); picture(1); ready(); hole(1)");
    t.comesBack(Room.FULL, "ill(5, true); scrub(0); scrub(1); line(1, 1, 0, 40, 0, 0); ready()");
    t.comesBack(Room.ALL_ILL, "ill(0, false); ill(5, false); solo(0, 6, true); ready()");
  }

  private void promise24() {
    t.refused(NONE, Room.EMPTY, "back()");
    t.refused(NONE, Room.NO_PICTURES, "back()");
    t.refused(NONE, Room.NO_MARCHERS, "back()");
    t.refused(NONE, Room.NO_DOTS, "back()");
    t.refused(NONE, Room.ALMOST_FULL, "back()");
    // nothing was kept by it, either
    t.then(Room.EMPTY, "back()", NONE, "marcher(1)", 0, "back()", NONE, "keep()", 1, "back()", 1,
        "many(0)", 1);
    // an empty room is something, too
    t.asNew(Room.EMPTY, "keep(); back()");
    t.asNew(Room.FULL, "back()");
    t.asNew(Room.FULL, "back(); back()");
    t.asNew(Room.ALL_ILL, "ready(); back()");
    // the latest, and no other one
    t.then(Room.EMPTY, "keep()", 1, "marcher(1)", 0, "keep()", 1, "marcher(2)", 1, "back()", 1,
        "many(0)", 1, "back()", 1, "many(0)", 1, "marcher(3)", 1, "bound(1, 1)", 3);
    t.then(Room.BAND, "back()", 1, "many(0)", 1, "many(1)", 1, "many(2)", 1, "many(3)", 1,
        "bound(0, 2)", 1, "counts(0, 1)", 2, "rule(0, 1)", 1, "rule(1, 1)", 3, "late(0, 0)", 4);
    // what comes behind back() isn't kept
    t.then(Room.BAND, "back()", 1, "bound(0, 4)", 1, "scrub(0)", 0, "back()", 1, "bound(0, 1)", 1,
        "dot(0, 0, 0)", 7);
  }

  /** What is full, or is none, goes by what came back. */
  private void promise24Limits() {
    t.then(Room.FULL, "back()", 1, "ill(0, true)", NUMBER, "counts(0, 1)", NUMBER, "marcher(1)", 0,
        "ill(0, false)", 0, "set(0, 0)", NUMBER, "picture(3)", 0, "scrub(0)", NONE,
        "line(0, 7, 0, 0, 1, 0)", 7, "dot(0, 6, 2)", 0, "set(0, 0)", 0);
    t.then(Room.ALL_ILL, "back()", 1, "marcher(2)", 0, "many(1)", 1, "bound(0, 1)", 2);
    t.then(Room.FULL, "keep()", 1, "scrub(0)", 6, "back()", 1, "marcher(1)", FULL, "picture(1)", FULL,
        "line(0, 1, 0, 40, 0, 0)", FULL, "scrub(0)", 6, "line(0, 1, 0, 40, 0, 0)", 7);
    t.then(Room.BAND, "back()", 1, "ill(1, true)", NUMBER, "marcher(4)", 1, "marcher(4)", 2,
        "ill(2, false)", 0, "picture(9)", 1, "dot(1, 0, 0)", NUMBER, "line(1, 3, 4, 9, 6, 0)", 3,
        "dot(1, 1, 2)", 0, "many(4)", 0);
  }

  /** An object is used for 512 calls: the last of them answers as the first ones do. */
  private void lastCalls() {
    Object[] run = new Object[2 * (512 - Room.BAND.callsMade())];
    for (int i = 0; i < run.length; i += 8) {
      put(run, i, "ill(0, true)", 1);
      put(run, i + 2, "set(1, 1)", 1);
      put(run, i + 4, "ill(0, false)", 1);
      put(run, i + 6, "hole(1)", 2);
    }
    t.then(Room.BAND, run);
  }

  private static void put(Object[] run, int at, String call, int want) {
    if (at + 1 < run.length) {
      run[at] = call;
      run[at + 1] = want;
    }
  }
}
