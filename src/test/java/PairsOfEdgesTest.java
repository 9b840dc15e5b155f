import java.lang.reflect.Method;
import java.lang.reflect.Modifier;
import java.util.Arrays;
import java.util.List;

/**
 * Every call with every two of its arguments at every edge, in every room: the answer is the plain
 * model's. Two edges at once are where two refusals apply, and where sums wrap around.
 */
public final class PairsOfEdgesTest {
  private static final int[] EDGES = {
    Integer.MIN_VALUE, Integer.MIN_VALUE + 1, -11, -10, -1, 0, 1, 2, 3, 4, 5, 6, 7, 8, 10, 11, 16,
    17, 20, 21, 32, 33, 40, 41, 65536, 1 << 30, Integer.MAX_VALUE - 1, Integer.MAX_VALUE
  };
  /** The room is made anew ahead of its 512th call. */
  private static final int MOST_CALLS = 60;

  private final Due due = new Due("pairs of edges");
  private Room room;
  private List<String> firstLook;
  private DotsOnGrass real;
  private Model model;
  private int calls;

  public static void main(String[] args) {
    PairsOfEdgesTest test = new PairsOfEdgesTest();
    for (Room room : Room.values()) {
      test.begin(room);
      for (Method method : DotsOnGrass.class.getDeclaredMethods()) {
        if (Modifier.isPublic(method.getModifiers())) {
          test.sweep(method);
        }
      }
      test.endRoom();
    }
    test.due.end();
  }

  private void begin(Room next) {
    room = next;
    firstLook = Look.at(room.make());
    makeAnew();
  }

  private void makeAnew() {
    real = room.make();
    model = room.model();
    calls = 0;
  }

  /** All calls since the room was made told something or were refused: it is as it was. */
  private void endRoom() {
    due.due(room + " is unchanged", firstLook.equals(Look.at(real)));
    makeAnew();
  }

  private void sweep(Method method) {
    Class<?>[] types = method.getParameterTypes();
    String[] words = new String[types.length];
    for (int i = 0; i < types.length; i++) {
      words[i] = types[i] == boolean.class ? "true" : "1";
    }
    if (types.length < 2) {
      sweepOne(method.getName(), types, words, 0);
    }
    for (int i = 0; i < types.length; i++) {
      for (int j = i + 1; j < types.length; j++) {
        for (String value : valuesOf(types[i])) {
          String before = words[i];
          words[i] = value;
          sweepOne(method.getName(), types, words, j);
          words[i] = before;
        }
      }
    }
  }

  private void sweepOne(String name, Class<?>[] types, String[] words, int at) {
    if (types.length == 0) {
      check(name + "()");
      return;
    }
    String before = words[at];
    for (String value : valuesOf(types[at])) {
      words[at] = value;
      check(name + "(" + String.join(", ", words) + ")");
    }
    words[at] = before;
  }

  private static String[] valuesOf(Class<?> type) {
    return type == boolean.class ? new String[] {"true", "false"}
        : Arrays.stream(EDGES).mapToObj(String::valueOf).toArray(String[]::new);
  }

  private void check(String text) {
    Call call = new Call(text);
    int got = call.on(real);
    due.due(room + " " + text, call.on(model), got);
    calls++;
    if (got >= 0 && changes(text)) {
      makeAnew();
    } else if (calls == MOST_CALLS) {
      endRoom();
    }
  }

  private static boolean changes(String text) {
    String name = text.substring(0, text.indexOf('('));
    return !List.of("dot", "set", "steps", "way", "closest", "late", "hole", "ready", "many")
        .contains(name);
  }
}
