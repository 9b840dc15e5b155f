/** Counts and prints the answers that aren't the ones that are due. */
final class Due {
  private int wrong = 0;
  private int asked = 0;
  private final String about;

  Due(String about) {
    this.about = about;
  }

  void due(String call, long want, long got) {
    asked++;
    if (want != got) {
      wrong++;
      System.out.println(about + ": " + call + " answered " + got + ", due is " + want);
    }
  }

  void due(String what, boolean holds) {
    due(what, 1, holds ? 1 : 0);
  }

  int wrong() {
    return wrong;
  }

  void end() {
    System.out.println(about + ": " + asked + " answers, " + wrong + " not as due");
    if (wrong != 0) {
      System.exit(1);
    }
  }
}
