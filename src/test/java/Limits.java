import java.util.ArrayList;
import java.util.EnumMap;
import java.util.List;
import java.util.Map;

/** What a call at its limits answers, and that one that is refused changes nothing. */
final class Limits {
  static final int NUMBER = -1;
  static final int FULL = -2;
  static final int NONE = -3;
  static final int PLACE = -4;
  static final int ILL = -5;

  private final Due due;
  private final Map<Room, List<String>> looks = new EnumMap<>(Room.class);
  private final Map<Room, List<String>> looksBack = new EnumMap<>(Room.class);

  Limits(String about) {
    due = new Due(about);
    for (Room room : Room.values()) {
      if (room.callsMade() + Look.MOST_CALLS + 8 > 512) {
        throw new IllegalStateException(room + " takes too many calls");
      }
      looks.put(room, Look.at(room.make()));
      looksBack.put(room, lookBack(room.make()));
    }
  }

  void end() {
    due.end();
  }

  /** A call that is taken: its answer alone; what it does is told by then(..). */
  void taken(int want, Room room, String call) {
    then(room, call, want);
  }

  /** Calls and answers by turns, on one new room. */
  void then(Room room, Object... callsAndAnswers) {
    DotsOnGrass d = room.make();
    StringBuilder told = new StringBuilder().append(room);
    for (int i = 0; i + 1 < callsAndAnswers.length; i += 2) {
      Call call = new Call((String) callsAndAnswers[i]);
      told.append(' ').append(call);
      due.due(told.toString(), (Integer) callsAndAnswers[i + 1], call.on(d));
    }
  }

  void holds(String what, boolean is) {
    due.due(what, is);
  }

  /** A call that is refused: it answers so, and nothing has changed. */
  void refused(int want, Room room, String text) {
    answersAndChangesNothing(want, room, text);
  }

  /** A call that tells something, or puts what is there already: nothing has changed, either. */
  void told(int want, Room room, String text) {
    answersAndChangesNothing(want, room, text);
  }

  /** The call answers so, as often as it is made, and all else answers as without it. */
  private void answersAndChangesNothing(int want, Room room, String text) {
    Call call = new Call(text);
    String about = room + " " + text;
    DotsOnGrass d = room.make();
    due.due(about, want, call.on(d));
    due.due(about + " again", want, call.on(d));
    unchanged(about, looks.get(room), Look.at(d));

    DotsOnGrass asked = room.make();
    asked.ready();
    due.due(about + " behind ready()", want, call.on(asked));
    unchanged(about + " behind ready()", looks.get(room), Look.at(asked));

    DotsOnGrass back = room.make();
    call.on(back);
    unchanged(about + " and back()", looksBack.get(room), lookBack(back));
  }

  /** The call with "%" below and above the limits, and at the ends of int. */
  void refusedOutside(int want, Room room, String text, int least, int most) {
    for (int v : new int[] {least - 1, most + 1, Integer.MIN_VALUE, Integer.MAX_VALUE}) {
      refused(want, room, text.replace("%", String.valueOf(v)));
    }
  }

  /** What is kept comes back whole, whatever is done meanwhile, and stays for another time. */
  void comesBack(Room room, String changes) {
    DotsOnGrass d = room.make();
    due.due(room + " keep()", 1, d.keep());
    Call.all(d, changes);
    due.due(room + " keep() " + changes + " back()", 1, d.back());
    unchanged(room + " back from " + changes, looks.get(room), Look.at(d));

    DotsOnGrass twice = room.make();
    twice.keep();
    twice.back();
    Call.all(twice, changes);
    due.due(room + " keep() back() " + changes + " back()", 1, twice.back());
    unchanged(room + " back once more from " + changes, looks.get(room), Look.at(twice));
  }

  /** It answers as a new one does. */
  void asNew(Room room, String calls) {
    DotsOnGrass d = room.make();
    Call.all(d, calls);
    unchanged(room + " " + calls + " is as new", looks.get(Room.EMPTY), Look.at(d));
  }

  private static List<String> lookBack(DotsOnGrass d) {
    List<String> seen = new ArrayList<>();
    seen.add("back() " + d.back());
    seen.addAll(Look.at(d));
    return seen;
  }

  private void unchanged(String about, List<String> want, List<String> got) {
    for (int i = 0; i < Math.min(want.size(), got.size()); i++) {
      if (!want.get(i).equals(got.get(i))) {
        due.due(about + ": then " + got.get(i) + ", due is " + want.get(i), false);
        return;
      }
    }
    due.due(about + ": as much to be seen as ahead of it", want.size(), got.size());
  }
}
