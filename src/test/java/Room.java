/** Rooms to begin with. Where something is kept it is unlike what is there, so that back() shows. */
enum Room {
  /** Nothing came, and nothing is kept. */
  EMPTY(""),

  /** 2 MARCHERS and no PICTURES. */
  NO_PICTURES("marcher(2); marcher(3)"),

  /** 2 PICTURES, the first one with a DOT, and no MARCHERS. */
  NO_MARCHERS("picture(3); picture(4); line(0, 1, 5, 6, 0, 0)"),

  /** 2 MARCHERS and 2 PICTURES without DOTS. */
  NO_DOTS("marcher(2); marcher(3); picture(3); picture(4)"),

  /**
   * MARCHERS 0 and 1 are PRESENT, 2 is ILL. PICTURES 0 and 1 of 4 and 5 COUNTS have 3 DOTS each and
   * SETTINGS; PICTURE 2 of 6 COUNTS has one DOT, too few. The SPEED is 1, so that a change of THE
   * DRUMS can be heard.
   */
  BAND("marcher(1); picture(2); line(0, 1, 7, 7, 0, 0); rule(1, 3); drums(9, 9); keep();"
      + "bound(0, 2); marcher(3); marcher(4); ill(2, true); counts(0, 4); scrub(0);"
      + "line(0, 3, 4, 4, 6, 0); picture(5); line(1, 3, 4, 9, 6, 0); solo(1, 1, true);"
      + "picture(6); line(2, 1, 4, 12, 0, 0); rule(0, 2); rule(1, 1); drums(3, 5)"),

  /** One below the most: 5 MARCHERS, 4 PICTURES of 16 COUNTS, 6 DOTS each; nothing is kept. */
  ALMOST_FULL("marcher(4); marcher(4); marcher(3); marcher(2); marcher(4);"
      + "picture(16); picture(16); picture(16); picture(16);"
      + "line(0, 6, 0, 0, 6, 0); line(1, 6, 0, 6, 6, 0); line(2, 6, 1, 12, 6, 0);"
      + "block(3, 8, 20, 3, 2, 5); solo(3, 5, true); rule(1, 1)"),

  /** 6 MARCHERS, 5 PICTURES, 7 DOTS each, all with SETTINGS. */
  FULL("keep(); marcher(4); marcher(4); marcher(3); marcher(4); marcher(4); marcher(4);"
      + "picture(16); picture(16); picture(16); picture(16); picture(16);"
      + "line(0, 7, 0, 0, 6, 0); line(1, 7, 0, 6, 6, 0); corner(2, 1, 12, 4, 5);"
      + "block(3, 8, 20, 3, 2, 5); line(3, 1, 30, 30, 0, 0); line(4, 7, 40, 38, -6, 0);"
      + "solo(1, 6, true); solo(3, 6, true); rule(1, 1)"),

  /** FULL, but nobody is PRESENT. */
  ALL_ILL(FULL.calls + "; ill(0, true); ill(1, true); ill(2, true); ill(3, true); ill(4, true);"
      + "ill(5, true)"),

  /** FULL, but MARCHER 5 is ILL, and from PICTURE 2 on no SETTING MAY be, for too few COUNTS. */
  STUCK(FULL.calls + "; ill(5, true); counts(2, 1)");

  private final String calls;

  Room(String calls) {
    this.calls = calls;
  }

  DotsOnGrass make() {
    DotsOnGrass d = new DotsOnGrass();
    Call.all(d, calls);
    return d;
  }

  Model model() {
    Model m = new Model();
    Call.all(m, calls);
    return m;
  }

  /** An object is good for 512 calls: these are gone already. */
  int callsMade() {
    return calls.isEmpty() ? 0 : calls.split(";").length;
  }
}
