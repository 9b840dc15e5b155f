import java.lang.reflect.Method;

/**
 * One call told as text, such as "line(0, 7, MAX, 0, 1, 1)", so that a test that fails prints what
 * it did, and so that the class and the model can be given the same call.
 */
final class Call {
  private final String text;
  private final String name;
  private final Object[] arguments;

  Call(String text) {
    this.text = text;
    int open = text.indexOf('(');
    name = text.substring(0, open);
    String inside = text.substring(open + 1, text.lastIndexOf(')')).trim();
    String[] words = inside.isEmpty() ? new String[0] : inside.split(",");
    arguments = new Object[words.length];
    for (int i = 0; i < words.length; i++) {
      arguments[i] = argument(words[i].trim());
    }
  }

  /** Several calls, parted by ";", none of which may be refused. */
  static void all(Object room, String texts) {
    for (String one : texts.split(";")) {
      if (!one.isBlank() && new Call(one.trim()).on(room) < 0) {
        throw new IllegalStateException(one + " was refused");
      }
    }
  }

  private static Object argument(String word) {
    switch (word) {
      case "true":
        return Boolean.TRUE;
      case "false":
        return Boolean.FALSE;
      case "MIN":
        return Integer.MIN_VALUE;
      case "MAX":
        return Integer.MAX_VALUE;
      default:
        return Integer.valueOf(word);
    }
  }

  /** The room is a DotsOnGrass or a Model. */
  int on(Object room) {
    Class<?>[] types = new Class<?>[arguments.length];
    for (int i = 0; i < types.length; i++) {
      types[i] = arguments[i] instanceof Boolean ? boolean.class : int.class;
    }
    try {
      Method method = room.getClass().getDeclaredMethod(name, types);
      return (Integer) method.invoke(room, arguments);
    } catch (ReflectiveOperationException e) {
      throw new IllegalStateException(text, e);
    }
  }

  @Override
  public String toString() {
    return text;
  }
}
