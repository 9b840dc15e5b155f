/** Promises 1 to 14 at their limits: just outside, at the limit, empty and full. */
public final class WhoAndWhereLimitsTest {
  private static final int NUMBER = Limits.NUMBER;
  private static final int FULL = Limits.FULL;
  private static final int NONE = Limits.NONE;
  private static final int PLACE = Limits.PLACE;

  private final Limits t = new Limits("who and where at their limits");

  public static void main(String[] args) {
    new WhoAndWhereLimitsTest().run();
  }

  private void run() {
    promise1();
    promise1NumbersNone();
    promise2();
    promise3();
    promise4();
    promise5();
    promise6();
    promise7Numbers();
    promise7Full();
    promise7Places();
    promise7Ends();
    promise7Twins();
    promise7Order();
    promise8Numbers();
    promise8Full();
    promise8Places();
    promise8Order();
    promise9Numbers();
    promise9Full();
    promise9Places();
    promise9Order();
    promise10();
    promise11();
    promise12();
    promise13();
    promise14();
    t.end();
  }

  private void promise1() {
    for (int what = 0; what <= 5; what++) {
      t.told(0, Room.EMPTY, "many(" + what + ")");
    }
    t.told(0, Room.EMPTY, "ready()");
    t.refused(NONE, Room.EMPTY, "back()");
    t.taken(1, Room.EMPTY, "rule(0, 0)");
    t.taken(10, Room.EMPTY, "rule(1, 20)");
    t.taken(1, Room.EMPTY, "keep()");
    t.then(Room.EMPTY, "keep()", 1, "back()", 1, "many(0)", 0, "many(2)", 0, "rule(0, 1)", 1,
        "rule(1, 10)", 10);
    t.then(Room.EMPTY, "marcher(1)", 0, "picture(1)", 0, "line(0, 1, 20, 0, 0, 0)", 1,
        "rule(1, 1)", 10, "late(0, 0)", 0);
  }

  /** In an empty room there is no MARCHER 0 and no PICTURE 0. */
  private void promise1NumbersNone() {
    for (String call : new String[] {
      "ill(0, true)", "ill(0, false)", "bound(0, 1)", "counts(0, 1)", "line(0, 1, 0, 0, 0, 0)",
      "block(0, 0, 0, 1, 1, 1)", "corner(0, 0, 0, 1, 1)", "solo(0, 0, true)", "scrub(0)",
      "dot(0, 0, 0)", "set(0, 0)", "steps(0, 0)", "way(0, 0, 0, 0)", "way(1, 0, 0, 0)",
      "closest(0, 0, 1)", "closest(1, 0, 1)", "late(0, 0)", "hole(0)"
    }) {
      t.refused(NUMBER, Room.EMPTY, call);
    }
  }

  private void promise2() {
    t.refusedOutside(NUMBER, Room.EMPTY, "marcher(%)", 1, 4);
    t.refusedOutside(NUMBER, Room.BAND, "marcher(%)", 1, 4);
    t.then(Room.EMPTY, "marcher(1)", 0, "bound(0, 1)", 1, "many(0)", 1, "many(1)", 1);
    t.then(Room.EMPTY, "marcher(4)", 0, "bound(0, 1)", 4, "many(0)", 1, "many(1)", 1);
    t.then(Room.ALMOST_FULL, "marcher(1)", 5, "many(0)", 6, "many(1)", 6, "bound(5, 2)", 1,
        "marcher(1)", FULL, "many(0)", 6);
    t.refused(FULL, Room.FULL, "marcher(1)");
    t.refused(FULL, Room.FULL, "marcher(4)");
    t.refused(FULL, Room.ALL_ILL, "marcher(1)");
    t.refusedOutside(NUMBER, Room.FULL, "marcher(%)", 1, 4);
    t.then(Room.EMPTY, "marcher(1)", 0, "marcher(5)", NUMBER, "marcher(2)", 1, "marcher(0)", NUMBER,
        "marcher(3)", 2);
  }

  private void promise3() {
    t.refusedOutside(NUMBER, Room.EMPTY, "ill(%, true)", 0, -1);
    t.refusedOutside(NUMBER, Room.BAND, "ill(%, true)", 0, 2);
    t.refusedOutside(NUMBER, Room.BAND, "ill(%, false)", 0, 2);
    t.refusedOutside(NUMBER, Room.FULL, "ill(%, true)", 0, 5);
    t.refusedOutside(NUMBER, Room.ALL_ILL, "ill(%, false)", 0, 5);
    t.then(Room.FULL, "ill(0, true)", 1, "many(1)", 5, "ill(5, true)", 1, "many(1)", 4);
    t.then(Room.ALL_ILL, "ill(0, false)", 1, "many(1)", 1, "ill(5, false)", 1, "many(1)", 2);
    t.told(0, Room.FULL, "ill(5, false)");
    t.told(0, Room.ALL_ILL, "ill(0, true)");
    t.told(0, Room.BAND, "ill(0, false)");
    t.told(0, Room.BAND, "ill(2, true)");
    t.then(Room.ALMOST_FULL, "ill(5, true)", NUMBER, "marcher(1)", 5, "ill(5, false)", 0,
        "ill(5, true)", 1);
  }

  private void promise4() {
    t.refusedOutside(NUMBER, Room.EMPTY, "bound(%, 1)", 0, -1);
    t.refusedOutside(NUMBER, Room.BAND, "bound(%, 1)", 0, 2);
    t.refusedOutside(NUMBER, Room.FULL, "bound(%, 4)", 0, 5);
    t.refusedOutside(NUMBER, Room.BAND, "bound(0, %)", 1, 4);
    t.refusedOutside(NUMBER, Room.FULL, "bound(5, %)", 1, 4);
    t.refused(NUMBER, Room.BAND, "bound(3, 5)");
    t.refused(NUMBER, Room.BAND, "bound(-1, 0)");
    t.then(Room.BAND, "bound(0, 1)", 2, "bound(0, 4)", 1, "bound(0, 4)", 4, "bound(1, 3)", 3,
        "bound(2, 1)", 4, "bound(2, 1)", 1);
    t.told(2, Room.BAND, "bound(0, 2)");
    t.then(Room.FULL, "bound(5, 1)", 4, "bound(5, 1)", 1, "bound(0, 4)", 4);
  }

  private void promise5() {
    t.refusedOutside(NUMBER, Room.EMPTY, "picture(%)", 1, 16);
    t.refusedOutside(NUMBER, Room.BAND, "picture(%)", 1, 16);
    t.then(Room.EMPTY, "picture(1)", 0, "counts(0, 2)", 1, "many(2)", 1, "many(3)", 0,
        "scrub(0)", NONE);
    t.then(Room.EMPTY, "picture(16)", 0, "counts(0, 2)", 16, "many(2)", 1, "many(3)", 0);
    t.then(Room.ALMOST_FULL, "picture(1)", 4, "many(2)", 5, "dot(4, 0, 0)", NUMBER,
        "picture(1)", FULL, "many(2)", 5);
    t.refused(FULL, Room.FULL, "picture(1)");
    t.refused(FULL, Room.FULL, "picture(16)");
    t.refusedOutside(NUMBER, Room.FULL, "picture(%)", 1, 16);
    t.then(Room.EMPTY, "picture(3)", 0, "picture(17)", NUMBER, "picture(4)", 1, "picture(0)", NUMBER,
        "picture(5)", 2, "counts(2, 1)", 5);
  }

  private void promise6() {
    t.refusedOutside(NUMBER, Room.EMPTY, "counts(%, 1)", 0, -1);
    t.refusedOutside(NUMBER, Room.BAND, "counts(%, 1)", 0, 2);
    t.refusedOutside(NUMBER, Room.FULL, "counts(%, 16)", 0, 4);
    t.refusedOutside(NUMBER, Room.BAND, "counts(0, %)", 1, 16);
    t.refusedOutside(NUMBER, Room.FULL, "counts(4, %)", 1, 16);
    t.refused(NUMBER, Room.BAND, "counts(3, 17)");
    t.refused(NUMBER, Room.BAND, "counts(-1, 0)");
    t.then(Room.BAND, "counts(0, 1)", 4, "counts(0, 16)", 1, "counts(0, 16)", 16,
        "counts(1, 5)", 5, "counts(2, 6)", 6);
    t.then(Room.FULL, "counts(4, 1)", 16, "counts(4, 1)", 1, "counts(3, 16)", 16);
    t.told(5, Room.BAND, "counts(1, 5)");
  }

  private void promise7Numbers() {
    t.refusedOutside(NUMBER, Room.BAND, "line(%, 1, 0, 0, 0, 0)", 0, 2);
    t.refusedOutside(NUMBER, Room.FULL, "line(%, 1, 0, 0, 0, 0)", 0, 4);
    t.refusedOutside(NUMBER, Room.NO_DOTS, "line(0, %, 0, 0, 1, 1)", 1, 7);
    t.refusedOutside(NUMBER, Room.BAND, "line(2, %, 0, 0, 1, 1)", 1, 7);
    t.refusedOutside(NUMBER, Room.BAND, "line(2, 1, 20, 20, %, 0)", -10, 10);
    t.refusedOutside(NUMBER, Room.BAND, "line(2, 1, 20, 20, 0, %)", -10, 10);
    t.refusedOutside(NUMBER, Room.NO_DOTS, "line(1, 7, 20, 20, %, 1)", -10, 10);
    t.refusedOutside(NUMBER, Room.NO_DOTS, "line(1, 7, 20, 20, 1, %)", -10, 10);
    t.taken(1, Room.NO_DOTS, "line(0, 1, 0, 0, 0, 0)");
    t.taken(1, Room.NO_DOTS, "line(1, 1, 40, 40, 0, 0)");
    t.taken(4, Room.BAND, "line(0, 1, 0, 0, 0, 0)");
    t.taken(2, Room.BAND, "line(2, 1, 0, 0, 0, 0)");
    t.taken(7, Room.NO_DOTS, "line(0, 7, 0, 0, 1, 1)");
    t.then(Room.NO_DOTS, "line(0, 2, 10, 10, -10, -10)", 2, "dot(0, 1, 0)", 0, "dot(0, 1, 1)", 0);
    t.then(Room.NO_DOTS, "line(0, 2, 30, 30, 10, 10)", 2, "dot(0, 1, 0)", 40, "dot(0, 1, 1)", 40);
    t.then(Room.NO_DOTS, "line(0, 5, 0, 40, 10, -10)", 5, "dot(0, 4, 0)", 40, "dot(0, 4, 1)", 0);
    t.then(Room.NO_DOTS, "line(0, 5, 40, 0, -10, 10)", 5, "dot(0, 4, 0)", 0, "dot(0, 4, 1)", 40);
    // a DOT that stands alone goes nowhere, however far the next one would be
    t.taken(1, Room.NO_DOTS, "line(0, 1, 40, 0, 10, -10)");
  }

  private void promise7Full() {
    t.taken(7, Room.NO_DOTS, "line(0, 7, 0, 0, 6, 0)");
    t.taken(7, Room.BAND, "line(0, 4, 0, 0, 1, 0)");
    t.refused(FULL, Room.BAND, "line(0, 5, 0, 0, 1, 0)");
    t.taken(7, Room.BAND, "line(2, 6, 0, 0, 1, 0)");
    t.refused(FULL, Room.BAND, "line(2, 7, 0, 0, 1, 0)");
    t.taken(7, Room.ALMOST_FULL, "line(0, 1, 0, 40, 0, 0)");
    t.refused(FULL, Room.ALMOST_FULL, "line(0, 2, 0, 40, 1, 0)");
    t.refused(FULL, Room.ALMOST_FULL, "line(0, 7, 0, 40, 1, 0)");
    t.refused(FULL, Room.FULL, "line(0, 1, 0, 40, 0, 0)");
    t.refused(FULL, Room.FULL, "line(4, 7, 0, 0, 1, 0)");
    t.then(Room.FULL, "scrub(0)", 6, "line(0, 2, 0, 40, 1, 0)", FULL, "line(0, 1, 0, 40, 0, 0)", 7,
        "line(0, 1, 1, 40, 0, 0)", FULL);
  }

  private void promise7Places() {
    t.refusedOutside(PLACE, Room.NO_DOTS, "line(0, 1, %, 0, 0, 0)", 0, 40);
    t.refusedOutside(PLACE, Room.NO_DOTS, "line(0, 1, 0, %, 0, 0)", 0, 40);
    t.refusedOutside(PLACE, Room.BAND, "line(2, 1, %, 20, 0, 0)", 0, 40);
    t.refusedOutside(PLACE, Room.BAND, "line(2, 1, 20, %, 0, 0)", 0, 40);
    t.refusedOutside(PLACE, Room.BAND, "line(2, 1, %, %, 0, 0)", 0, 40);
    // sums that wrap around at the ends of int
    t.refusedOutside(PLACE, Room.NO_DOTS, "line(0, 7, %, 0, 10, 0)", 0, 40);
    t.refusedOutside(PLACE, Room.NO_DOTS, "line(0, 7, %, 0, -10, 0)", 0, 40);
    t.refusedOutside(PLACE, Room.NO_DOTS, "line(0, 7, 0, %, 0, 10)", 0, 40);
    t.refusedOutside(PLACE, Room.NO_DOTS, "line(0, 7, 0, %, 0, -10)", 0, 40);
    t.refused(PLACE, Room.NO_DOTS, "line(0, 7, 2147483588, 0, 10, 0)");
    t.refused(PLACE, Room.NO_DOTS, "line(0, 7, -2147483589, 0, -10, 0)");
    t.refused(PLACE, Room.NO_DOTS, "line(0, 7, 0, 2147483588, 0, 10)");
    t.taken(1, Room.NO_DOTS, "line(0, 1, 0, 0, 0, 0)");
    t.taken(1, Room.NO_DOTS, "line(0, 1, 40, 0, 0, 0)");
    t.taken(1, Room.NO_DOTS, "line(0, 1, 0, 40, 0, 0)");
    t.taken(1, Room.NO_DOTS, "line(0, 1, 40, 40, 0, 0)");
    // where one is already: the first, one between, the last
    t.refused(PLACE, Room.BAND, "line(0, 1, 4, 4, 0, 0)");
    t.refused(PLACE, Room.BAND, "line(0, 1, 16, 4, 0, 0)");
    t.refused(PLACE, Room.BAND, "line(0, 3, 10, 4, 0, 1)");
    t.refused(PLACE, Room.BAND, "line(0, 3, 10, 3, 0, 1)");
    t.refused(PLACE, Room.BAND, "line(0, 3, 10, 2, 0, 1)");
    t.refused(PLACE, Room.BAND, "line(2, 1, 4, 12, 0, 0)");
    // beside it, or at the same place of another PICTURE
    t.taken(4, Room.BAND, "line(0, 1, 10, 5, 0, 0)");
    t.taken(4, Room.BAND, "line(0, 1, 9, 4, 0, 0)");
    t.taken(2, Room.BAND, "line(2, 1, 4, 4, 0, 0)");
    t.taken(4, Room.BAND, "line(0, 1, 4, 9, 0, 0)");
    t.then(Room.BAND, "scrub(0)", 2, "line(0, 1, 16, 4, 0, 0)", 3);
  }

  /** The last DOT just on GRASS, and just off it, on all four sides. */
  private void promise7Ends() {
    t.then(Room.NO_DOTS, "line(0, 4, 10, 5, 10, 0)", 4, "dot(0, 3, 0)", 40);
    t.refused(PLACE, Room.NO_DOTS, "line(0, 4, 11, 5, 10, 0)");
    t.then(Room.NO_DOTS, "line(0, 4, 30, 5, -10, 0)", 4, "dot(0, 3, 0)", 0);
    t.refused(PLACE, Room.NO_DOTS, "line(0, 4, 29, 5, -10, 0)");
    t.then(Room.NO_DOTS, "line(0, 4, 5, 10, 0, 10)", 4, "dot(0, 3, 1)", 40);
    t.refused(PLACE, Room.NO_DOTS, "line(0, 4, 5, 11, 0, 10)");
    t.then(Room.NO_DOTS, "line(0, 4, 5, 30, 0, -10)", 4, "dot(0, 3, 1)", 0);
    t.refused(PLACE, Room.NO_DOTS, "line(0, 4, 5, 29, 0, -10)");
    t.then(Room.NO_DOTS, "line(0, 7, 40, 40, -6, -6)", 7, "dot(0, 6, 0)", 4, "dot(0, 6, 1)", 4);
    t.refused(PLACE, Room.NO_DOTS, "line(0, 7, 40, 40, -7, 0)");
    t.refused(PLACE, Room.NO_DOTS, "line(0, 7, 0, 0, 0, 7)");
  }

  private void promise7Twins() {
    t.refused(PLACE, Room.NO_DOTS, "line(0, 2, 5, 5, 0, 0)");
    t.refused(PLACE, Room.NO_DOTS, "line(0, 7, 5, 5, 0, 0)");
    t.refused(PLACE, Room.BAND, "line(2, 2, 5, 5, 0, 0)");
    t.taken(1, Room.NO_DOTS, "line(0, 1, 5, 5, 0, 0)");
    t.taken(2, Room.NO_DOTS, "line(0, 2, 5, 5, 1, 0)");
    t.taken(2, Room.NO_DOTS, "line(0, 2, 5, 5, 0, -1)");
  }

  private void promise7Order() {
    // NUMBER ahead of FULL
    t.refused(NUMBER, Room.FULL, "line(0, 8, 0, 40, 1, 0)");
    t.refused(NUMBER, Room.FULL, "line(0, 0, 0, 40, 1, 0)");
    t.refused(NUMBER, Room.FULL, "line(0, 1, 0, 40, 11, 0)");
    t.refused(NUMBER, Room.FULL, "line(0, 1, 0, 40, 0, -11)");
    t.refused(NUMBER, Room.FULL, "line(5, 7, 0, 40, 1, 0)");
    // NUMBER ahead of PLACE
    t.refused(NUMBER, Room.NO_DOTS, "line(2, 1, 41, 0, 0, 0)");
    t.refused(NUMBER, Room.NO_DOTS, "line(0, 0, -1, 0, 0, 0)");
    t.refused(NUMBER, Room.NO_DOTS, "line(0, 2, 35, 0, 11, 0)");
    t.refused(NUMBER, Room.BAND, "line(0, 1, 4, 4, 0, 11)");
    // FULL ahead of PLACE: off GRASS, where one is, and twins
    t.refused(FULL, Room.FULL, "line(0, 1, 41, 0, 0, 0)");
    t.refused(FULL, Room.FULL, "line(0, 1, MAX, MIN, 10, 10)");
    t.refused(FULL, Room.FULL, "line(0, 1, 0, 0, 0, 0)");
    t.refused(FULL, Room.FULL, "line(0, 2, 1, 1, 0, 0)");
    t.refused(FULL, Room.ALMOST_FULL, "line(0, 2, 0, 0, 0, 0)");
    t.refused(FULL, Room.BAND, "line(0, 5, 4, 4, 10, 10)");
    // all three
    t.refused(NUMBER, Room.FULL, "line(0, 8, 41, 0, 0, 0)");
  }

  private void promise8Numbers() {
    t.refusedOutside(NUMBER, Room.BAND, "block(%, 0, 0, 1, 1, 1)", 0, 2);
    t.refusedOutside(NUMBER, Room.FULL, "block(%, 0, 0, 1, 1, 1)", 0, 4);
    t.refusedOutside(NUMBER, Room.BAND, "block(2, 0, 0, %, 1, 1)", 1, 4);
    t.refusedOutside(NUMBER, Room.BAND, "block(2, 0, 0, 1, %, 1)", 1, 4);
    t.refusedOutside(NUMBER, Room.BAND, "block(2, 0, 0, %, %, 1)", 1, 4);
    t.refusedOutside(NUMBER, Room.BAND, "block(2, 0, 0, 1, 1, %)", 1, 5);
    // products of w and h that wrap around to what would fit, or to 0
    t.refused(NUMBER, Room.NO_DOTS, "block(0, 0, 0, 65536, 65536, 1)");
    t.refused(NUMBER, Room.NO_DOTS, "block(0, 0, 0, 1073741824, 4, 1)");
    t.refused(NUMBER, Room.NO_DOTS, "block(0, 0, 0, 4, 1073741824, 1)");
    t.refused(NUMBER, Room.NO_DOTS, "block(0, 0, 0, MIN, 2, 1)");
    t.refused(NUMBER, Room.NO_DOTS, "block(0, 0, 0, -1, -1, 1)");
    t.refused(NUMBER, Room.NO_DOTS, "block(0, 0, 0, MAX, MAX, 1)");
    t.taken(1, Room.NO_DOTS, "block(0, 0, 0, 1, 1, 1)");
    t.taken(1, Room.NO_DOTS, "block(1, 0, 0, 1, 1, 5)");
    t.then(Room.NO_DOTS, "block(0, 0, 0, 4, 1, 5)", 4, "dot(0, 3, 0)", 15, "dot(0, 3, 1)", 0);
    t.then(Room.NO_DOTS, "block(0, 0, 0, 1, 4, 5)", 4, "dot(0, 3, 0)", 0, "dot(0, 3, 1)", 15);
    t.then(Room.NO_DOTS, "block(0, 0, 0, 2, 3, 1)", 6, "dot(0, 1, 0)", 1, "dot(0, 1, 1)", 0,
        "dot(0, 2, 0)", 0, "dot(0, 2, 1)", 1, "dot(0, 5, 0)", 1, "dot(0, 5, 1)", 2);
  }

  private void promise8Full() {
    t.taken(6, Room.NO_DOTS, "block(0, 0, 0, 3, 2, 1)");
    t.taken(6, Room.NO_DOTS, "block(0, 0, 0, 2, 3, 1)");
    t.refused(FULL, Room.NO_DOTS, "block(0, 0, 0, 4, 2, 1)");
    t.refused(FULL, Room.NO_DOTS, "block(0, 0, 0, 2, 4, 1)");
    t.refused(FULL, Room.NO_DOTS, "block(0, 0, 0, 3, 3, 1)");
    t.refused(FULL, Room.NO_DOTS, "block(0, 0, 0, 4, 4, 5)");
    t.taken(7, Room.BAND, "block(2, 0, 0, 3, 2, 1)");
    t.taken(7, Room.BAND, "block(0, 0, 10, 2, 2, 1)");
    t.refused(FULL, Room.BAND, "block(0, 0, 10, 2, 3, 1)");
    t.taken(7, Room.ALMOST_FULL, "block(0, 0, 40, 1, 1, 1)");
    t.refused(FULL, Room.ALMOST_FULL, "block(0, 0, 40, 2, 1, 1)");
    t.refused(FULL, Room.ALMOST_FULL, "block(0, 0, 39, 1, 2, 1)");
    t.refused(FULL, Room.FULL, "block(0, 0, 40, 1, 1, 1)");
    t.refused(FULL, Room.FULL, "block(4, 0, 0, 4, 4, 5)");
  }

  private void promise8Places() {
    t.refusedOutside(PLACE, Room.NO_DOTS, "block(0, %, 0, 1, 1, 1)", 0, 40);
    t.refusedOutside(PLACE, Room.NO_DOTS, "block(0, 0, %, 1, 1, 1)", 0, 40);
    t.refusedOutside(PLACE, Room.BAND, "block(2, %, 0, 3, 2, 5)", 0, 40);
    t.refusedOutside(PLACE, Room.BAND, "block(2, 0, %, 3, 2, 5)", 0, 40);
    t.taken(1, Room.NO_DOTS, "block(0, 40, 0, 1, 1, 5)");
    t.taken(1, Room.NO_DOTS, "block(0, 0, 40, 1, 1, 5)");
    t.then(Room.NO_DOTS, "block(0, 30, 35, 3, 2, 5)", 6, "dot(0, 5, 0)", 40, "dot(0, 5, 1)", 40);
    t.refused(PLACE, Room.NO_DOTS, "block(0, 31, 35, 3, 2, 5)");
    t.refused(PLACE, Room.NO_DOTS, "block(0, 30, 36, 3, 2, 5)");
    t.taken(4, Room.NO_DOTS, "block(0, 25, 0, 4, 1, 5)");
    t.refused(PLACE, Room.NO_DOTS, "block(0, 26, 0, 4, 1, 5)");
    t.taken(4, Room.NO_DOTS, "block(0, 0, 25, 1, 4, 5)");
    t.refused(PLACE, Room.NO_DOTS, "block(0, 0, 26, 1, 4, 5)");
    // sums that wrap around
    t.refused(PLACE, Room.NO_DOTS, "block(0, 2147483640, 0, 3, 2, 5)");
    t.refused(PLACE, Room.NO_DOTS, "block(0, 0, 2147483640, 2, 3, 5)");
    // where one is: the first, one between, the last; and beside it
    t.refused(PLACE, Room.BAND, "block(0, 4, 4, 2, 2, 1)");
    t.refused(PLACE, Room.BAND, "block(0, 3, 4, 2, 2, 1)");
    t.refused(PLACE, Room.BAND, "block(0, 4, 3, 2, 2, 1)");
    t.refused(PLACE, Room.BAND, "block(0, 3, 3, 2, 2, 1)");
    t.taken(7, Room.BAND, "block(0, 5, 4, 2, 2, 1)");
    t.taken(7, Room.BAND, "block(0, 3, 3, 2, 2, 2)");
  }

  private void promise8Order() {
    // NUMBER ahead of FULL
    t.refused(NUMBER, Room.NO_DOTS, "block(2, 0, 0, 4, 4, 1)");
    t.refused(NUMBER, Room.NO_DOTS, "block(0, 0, 0, 5, 4, 1)");
    t.refused(NUMBER, Room.NO_DOTS, "block(0, 0, 0, 4, 5, 1)");
    t.refused(NUMBER, Room.NO_DOTS, "block(0, 0, 0, 4, 4, 6)");
    t.refused(NUMBER, Room.FULL, "block(0, 0, 40, 1, 1, 0)");
    // NUMBER ahead of PLACE
    t.refused(NUMBER, Room.NO_DOTS, "block(2, 41, 0, 1, 1, 1)");
    t.refused(NUMBER, Room.NO_DOTS, "block(0, -1, 0, 0, 1, 1)");
    t.refused(NUMBER, Room.BAND, "block(0, 4, 4, 1, 1, 6)");
    // FULL ahead of PLACE
    t.refused(FULL, Room.NO_DOTS, "block(0, 41, 0, 4, 2, 1)");
    t.refused(FULL, Room.NO_DOTS, "block(0, 0, MIN, 4, 4, 5)");
    t.refused(FULL, Room.FULL, "block(0, 0, 0, 1, 1, 1)");
    t.refused(FULL, Room.FULL, "block(0, MAX, MAX, 1, 1, 1)");
    // all three
    t.refused(NUMBER, Room.FULL, "block(0, 41, 41, 5, 4, 1)");
  }

  private void promise9Numbers() {
    t.refusedOutside(NUMBER, Room.BAND, "corner(%, 0, 0, 1, 1)", 0, 2);
    t.refusedOutside(NUMBER, Room.FULL, "corner(%, 0, 0, 1, 1)", 0, 4);
    t.refusedOutside(NUMBER, Room.NO_DOTS, "corner(0, 0, 0, %, 1)", 1, 4);
    t.refusedOutside(NUMBER, Room.BAND, "corner(2, 0, 0, %, 1)", 1, 4);
    t.refusedOutside(NUMBER, Room.BAND, "corner(2, 0, 0, 1, %)", 1, 5);
    // twice n less one that wraps around to what would fit
    t.refused(NUMBER, Room.NO_DOTS, "corner(0, 0, 0, -2147483647, 1)");
    t.refused(NUMBER, Room.NO_DOTS, "corner(0, 0, 0, -2147483645, 1)");
    t.taken(1, Room.NO_DOTS, "corner(0, 0, 0, 1, 1)");
    t.taken(1, Room.NO_DOTS, "corner(1, 40, 40, 1, 5)");
    t.then(Room.NO_DOTS, "corner(0, 0, 0, 2, 1)", 3, "dot(0, 1, 0)", 1, "dot(0, 1, 1)", 0,
        "dot(0, 2, 0)", 1, "dot(0, 2, 1)", 1);
    t.then(Room.NO_DOTS, "corner(0, 0, 0, 4, 5)", 7, "dot(0, 3, 0)", 15, "dot(0, 3, 1)", 0,
        "dot(0, 4, 0)", 15, "dot(0, 4, 1)", 5, "dot(0, 6, 0)", 15, "dot(0, 6, 1)", 15);
  }

  private void promise9Full() {
    t.taken(7, Room.NO_DOTS, "corner(0, 0, 0, 4, 1)");
    t.taken(6, Room.BAND, "corner(2, 0, 0, 3, 1)");
    t.refused(FULL, Room.BAND, "corner(2, 0, 0, 4, 1)");
    t.taken(6, Room.BAND, "corner(0, 0, 10, 2, 1)");
    t.refused(FULL, Room.BAND, "corner(0, 0, 10, 3, 1)");
    t.then(Room.BAND, "scrub(0)", 2, "corner(0, 0, 10, 3, 1)", 7);
    t.taken(7, Room.ALMOST_FULL, "corner(0, 0, 40, 1, 1)");
    t.refused(FULL, Room.ALMOST_FULL, "corner(0, 0, 30, 2, 1)");
    t.refused(FULL, Room.FULL, "corner(0, 0, 40, 1, 1)");
    t.refused(FULL, Room.FULL, "corner(4, 0, 0, 4, 5)");
  }

  private void promise9Places() {
    t.refusedOutside(PLACE, Room.NO_DOTS, "corner(0, %, 0, 1, 1)", 0, 40);
    t.refusedOutside(PLACE, Room.NO_DOTS, "corner(0, 0, %, 1, 1)", 0, 40);
    t.refusedOutside(PLACE, Room.NO_DOTS, "corner(0, %, 0, 4, 5)", 0, 40);
    t.refusedOutside(PLACE, Room.NO_DOTS, "corner(0, 0, %, 4, 5)", 0, 40);
    t.taken(1, Room.NO_DOTS, "corner(0, 40, 0, 1, 5)");
    t.taken(1, Room.NO_DOTS, "corner(0, 0, 40, 1, 5)");
    t.then(Room.NO_DOTS, "corner(0, 25, 25, 4, 5)", 7, "dot(0, 6, 0)", 40, "dot(0, 6, 1)", 40);
    t.refused(PLACE, Room.NO_DOTS, "corner(0, 26, 25, 4, 5)");
    t.refused(PLACE, Room.NO_DOTS, "corner(0, 25, 26, 4, 5)");
    // sums that wrap around
    t.refused(PLACE, Room.NO_DOTS, "corner(0, 2147483640, 0, 4, 5)");
    t.refused(PLACE, Room.NO_DOTS, "corner(0, 0, 2147483640, 4, 5)");
    // where one is: the first, the one at the bend, the last; and beside it
    t.refused(PLACE, Room.BAND, "corner(0, 10, 4, 2, 1)");
    t.refused(PLACE, Room.BAND, "corner(0, 9, 4, 2, 1)");
    t.refused(PLACE, Room.BAND, "corner(0, 9, 3, 2, 1)");
    t.taken(6, Room.BAND, "corner(0, 10, 3, 2, 1)");
  }

  private void promise9Order() {
    // NUMBER ahead of FULL
    t.refused(NUMBER, Room.FULL, "corner(5, 0, 40, 1, 1)");
    t.refused(NUMBER, Room.FULL, "corner(0, 0, 40, 5, 1)");
    t.refused(NUMBER, Room.FULL, "corner(0, 0, 40, 0, 1)");
    t.refused(NUMBER, Room.FULL, "corner(0, 0, 40, 1, 6)");
    // NUMBER ahead of PLACE
    t.refused(NUMBER, Room.NO_DOTS, "corner(-1, 41, 0, 1, 1)");
    t.refused(NUMBER, Room.NO_DOTS, "corner(0, 41, 0, 0, 1)");
    t.refused(NUMBER, Room.NO_DOTS, "corner(0, 0, 41, 1, 0)");
    // FULL ahead of PLACE
    t.refused(FULL, Room.BAND, "corner(0, 41, 0, 3, 1)");
    t.refused(FULL, Room.BAND, "corner(0, 4, 4, 3, 1)");
    t.refused(FULL, Room.FULL, "corner(0, MIN, MAX, 1, 1)");
    // all three
    t.refused(NUMBER, Room.FULL, "corner(0, -1, -1, 4, 6)");
  }

  private void promise10() {
    t.refusedOutside(NUMBER, Room.BAND, "solo(%, 0, true)", 0, 2);
    t.refusedOutside(NUMBER, Room.BAND, "solo(%, 0, false)", 0, 2);
    t.refusedOutside(NUMBER, Room.FULL, "solo(%, 0, true)", 0, 4);
    t.refusedOutside(NUMBER, Room.BAND, "solo(0, %, true)", 0, 2);
    t.refusedOutside(NUMBER, Room.BAND, "solo(1, %, false)", 0, 2);
    t.refusedOutside(NUMBER, Room.BAND, "solo(2, %, true)", 0, 0);
    t.refusedOutside(NUMBER, Room.FULL, "solo(4, %, true)", 0, 6);
    t.refusedOutside(NUMBER, Room.NO_DOTS, "solo(0, %, true)", 0, -1);
    t.refused(NUMBER, Room.NO_DOTS, "solo(0, 0, false)");
    t.refused(NUMBER, Room.BAND, "solo(3, 3, true)");
    t.then(Room.FULL, "solo(0, 0, true)", 1, "dot(0, 0, 2)", 1, "many(4)", 3, "solo(4, 6, true)", 1,
        "dot(4, 6, 2)", 1, "many(4)", 4);
    t.then(Room.FULL, "solo(3, 6, false)", 1, "dot(3, 6, 2)", 0, "many(4)", 1);
    t.told(0, Room.FULL, "solo(4, 6, false)");
    t.told(0, Room.FULL, "solo(3, 6, true)");
    t.told(0, Room.BAND, "solo(1, 1, true)");
    t.told(0, Room.BAND, "solo(0, 0, false)");
    // a DOT that is no more can be none, and a new one in its stead isn't one
    t.then(Room.BAND, "solo(2, 0, true)", 1, "scrub(2)", 0, "solo(2, 0, false)", NUMBER,
        "many(4)", 1, "line(2, 1, 4, 12, 0, 0)", 1, "dot(2, 0, 2)", 0, "solo(2, 0, true)", 1);
    // all the DOTS of a full PICTURE may be SOLOS
    t.then(Room.ALL_ILL, "solo(0, 0, true)", 1, "solo(0, 1, true)", 1, "solo(0, 2, true)", 1,
        "solo(0, 3, true)", 1, "solo(0, 4, true)", 1, "solo(0, 5, true)", 1, "solo(0, 6, true)", 1,
        "many(4)", 9, "ready()", 0);
  }

  private void promise11() {
    t.refusedOutside(NUMBER, Room.EMPTY, "scrub(%)", 0, -1);
    t.refusedOutside(NUMBER, Room.BAND, "scrub(%)", 0, 2);
    t.refusedOutside(NUMBER, Room.FULL, "scrub(%)", 0, 4);
    t.refused(NONE, Room.NO_DOTS, "scrub(0)");
    t.refused(NONE, Room.NO_DOTS, "scrub(1)");
    t.refused(NONE, Room.NO_MARCHERS, "scrub(1)");
    t.refused(NUMBER, Room.NO_DOTS, "scrub(2)");
    t.refused(NUMBER, Room.NO_DOTS, "scrub(-1)");
    t.then(Room.FULL, "scrub(4)", 6, "scrub(4)", 5, "scrub(4)", 4, "scrub(4)", 3, "scrub(4)", 2,
        "scrub(4)", 1, "dot(4, 0, 0)", 40, "scrub(4)", 0, "dot(4, 0, 0)", NUMBER, "scrub(4)", NONE,
        "scrub(4)", NONE, "many(3)", 28, "line(4, 1, 40, 38, 0, 0)", 1, "scrub(4)", 0);
    t.then(Room.BAND, "scrub(2)", 0, "scrub(2)", NONE, "scrub(0)", 2, "dot(0, 1, 0)", 10,
        "dot(0, 2, 0)", NUMBER);
  }

  private void promise12() {
    t.refusedOutside(NUMBER, Room.BAND, "rule(0, %)", 0, 3);
    t.refusedOutside(NUMBER, Room.BAND, "rule(1, %)", 1, 20);
    t.refusedOutside(NUMBER, Room.BAND, "rule(%, 1)", 0, 1);
    t.refusedOutside(NUMBER, Room.EMPTY, "rule(0, %)", 0, 3);
    t.refusedOutside(NUMBER, Room.EMPTY, "rule(1, %)", 1, 20);
    t.refusedOutside(NUMBER, Room.EMPTY, "rule(%, 2)", 0, 1);
    // what would do for the other one
    t.refused(NUMBER, Room.BAND, "rule(0, 20)");
    t.refused(NUMBER, Room.BAND, "rule(0, 10)");
    t.refused(NUMBER, Room.BAND, "rule(2, 21)");
    t.refused(NUMBER, Room.BAND, "rule(-1, -1)");
    t.then(Room.EMPTY, "rule(0, 0)", 1, "rule(0, 3)", 0, "rule(0, 3)", 3, "rule(1, 10)", 10);
    t.then(Room.EMPTY, "rule(1, 1)", 10, "rule(1, 20)", 1, "rule(1, 20)", 20, "rule(0, 1)", 1);
    t.told(2, Room.BAND, "rule(0, 2)");
    t.told(1, Room.BAND, "rule(1, 1)");
  }

  private void promise13() {
    t.refusedOutside(PLACE, Room.BAND, "drums(%, 0)", 0, 40);
    t.refusedOutside(PLACE, Room.BAND, "drums(0, %)", 0, 40);
    t.refusedOutside(PLACE, Room.BAND, "drums(%, %)", 0, 40);
    t.refusedOutside(PLACE, Room.FULL, "drums(40, %)", 0, 40);
    t.refusedOutside(PLACE, Room.FULL, "drums(%, 40)", 0, 40);
    t.refused(PLACE, Room.EMPTY, "drums(41, 41)");
    // MARCHER 0 stands at (4, 4)
    t.then(Room.BAND, "drums(0, 0)", 1, "late(0, 0)", 8);
    t.then(Room.BAND, "drums(40, 0)", 1, "late(0, 0)", 40);
    t.then(Room.BAND, "drums(0, 40)", 1, "late(0, 0)", 40);
    t.then(Room.BAND, "drums(40, 40)", 1, "late(0, 0)", 72);
    t.taken(1, Room.EMPTY, "drums(40, 40)");
    // where a DOT is, or where they stand already
    t.then(Room.BAND, "drums(4, 4)", 1, "late(0, 0)", 0, "late(0, 1)", 6);
    t.told(1, Room.BAND, "drums(3, 5)");
  }

  private void promise14() {
    t.refusedOutside(NUMBER, Room.EMPTY, "dot(%, 0, 0)", 0, -1);
    t.refusedOutside(NUMBER, Room.BAND, "dot(%, 0, 0)", 0, 2);
    t.refusedOutside(NUMBER, Room.FULL, "dot(%, 6, 2)", 0, 4);
    t.refusedOutside(NUMBER, Room.NO_DOTS, "dot(0, %, 0)", 0, -1);
    t.refusedOutside(NUMBER, Room.BAND, "dot(0, %, 0)", 0, 2);
    t.refusedOutside(NUMBER, Room.BAND, "dot(2, %, 1)", 0, 0);
    t.refusedOutside(NUMBER, Room.FULL, "dot(4, %, 2)", 0, 6);
    t.refusedOutside(NUMBER, Room.BAND, "dot(0, 0, %)", 0, 2);
    t.refused(NUMBER, Room.BAND, "dot(3, 3, 3)");
    t.told(4, Room.BAND, "dot(0, 0, 0)");
    t.told(4, Room.BAND, "dot(0, 0, 1)");
    t.told(0, Room.BAND, "dot(0, 0, 2)");
    t.told(1, Room.BAND, "dot(1, 1, 2)");
    t.told(12, Room.BAND, "dot(2, 0, 1)");
    t.told(4, Room.FULL, "dot(4, 6, 0)");
    t.told(38, Room.FULL, "dot(4, 6, 1)");
    t.told(1, Room.FULL, "dot(1, 6, 2)");
    t.then(Room.NO_DOTS, "line(0, 2, 0, 40, 10, -10)", 2, "dot(0, 0, 0)", 0, "dot(0, 0, 1)", 40);
  }
}
