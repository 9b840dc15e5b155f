import java.util.ArrayList;
import java.util.List;

/** All that the calls of a room answer, so that what changed can be told. */
final class Look {
  /** More than these, with those that made the room, would not fit into the 512 of an object. */
  static final int MOST_CALLS = 420;

  private final DotsOnGrass d;
  private final List<String> seen = new ArrayList<>();
  private int calls = 0;

  private Look(DotsOnGrass d) {
    this.d = d;
  }

  static List<String> at(DotsOnGrass d) {
    Look look = new Look(d);
    look.seeAll();
    if (look.calls > MOST_CALLS) {
      throw new IllegalStateException("a look of " + look.calls + " calls");
    }
    return look.seen;
  }

  private void see(String call, int answer) {
    calls++;
    seen.add(call + " " + answer);
  }

  private void seeAll() {
    for (int what = 0; what <= 5; what++) {
      see("many(" + what + ")", d.many(what));
    }
    see("ready()", d.ready());
    int marchers = d.many(0);
    int pictures = d.many(2);
    calls += 2;
    for (int p = 0; p < pictures; p++) {
      seeDots(p);
      for (int what = 0; what <= 2; what++) {
        see("steps(" + p + ", " + what + ")", d.steps(p, what));
      }
      for (int m = 0; m < marchers; m++) {
        see("set(" + p + ", " + m + ")", d.set(p, m));
        see("late(" + p + ", " + m + ")", d.late(p, m));
        seeWay(p, m);
      }
    }
    for (int m = 0; m < marchers; m++) {
      see("hole(" + m + ")", d.hole(m));
    }
    seeSettings(marchers, pictures);
  }

  private void seeDots(int p) {
    for (int dot = 0; dot <= 7; dot++) {
      int x = d.dot(p, dot, 0);
      see("dot(" + p + ", " + dot + ", 0)", x);
      if (x < 0) {
        return;
      }
      see("dot(" + p + ", " + dot + ", 1)", d.dot(p, dot, 1));
      see("dot(" + p + ", " + dot + ", 2)", d.dot(p, dot, 2));
    }
  }

  private void seeWay(int p, int m) {
    for (int what = 0; p > 0 && what <= 3; what++) {
      see("way(" + p + ", " + m + ", 1, " + what + ")", d.way(p, m, 1, what));
    }
    for (int other = 0; p > 0 && other < m; other++) {
      see("closest(" + p + ", " + m + ", " + other + ")", d.closest(p, m, other));
    }
  }

  /** These are told by the calls that change them alone: they are changed, and put back. */
  private void seeSettings(int marchers, int pictures) {
    for (int m = 0; m < marchers; m++) {
      int was = d.bound(m, 1);
      see("bound(" + m + ", 1)", was);
      see("bound(" + m + ", " + was + ")", d.bound(m, was));
    }
    for (int p = 0; p < pictures; p++) {
      int was = d.counts(p, 1);
      see("counts(" + p + ", 1)", was);
      see("counts(" + p + ", " + was + ")", d.counts(p, was));
    }
    for (int what = 0; what <= 1; what++) {
      int was = d.rule(what, 1);
      see("rule(" + what + ", 1)", was);
      see("rule(" + what + ", " + was + ")", d.rule(what, was));
    }
  }
}
