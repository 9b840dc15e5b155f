import java.io.IOException;
import java.lang.reflect.Method;
import java.nio.file.Files;
import java.nio.file.Path;
import java.util.Set;
import java.util.TreeSet;
import java.util.regex.Matcher;
import java.util.regex.Pattern;

/** What README.md shows is what the class does: each call of its example answers as told there. */
public final class ReadmeTest {
  private static final Pattern CALL = Pattern.compile("room\\.(.+\\));\\s*// (-?\\d+)(:.*)?");

  public static void main(String[] args) throws IOException {
    Due t = new Due("README.md");
    String text = Files.readString(Path.of("README.md"));
    example(t, text);
    namesAllCalls(t, text);
    t.end();
  }

  private static void example(Due t, String text) {
    DotsOnGrass room = new DotsOnGrass();
    int calls = 0;
    for (String line : text.split("\n")) {
      Matcher told = CALL.matcher(line);
      if (told.matches()) {
        Call call = new Call(told.group(1));
        t.due(call.toString(), Integer.parseInt(told.group(2)), call.on(room));
        calls++;
      } else {
        t.due("tells its answer: " + line, !line.startsWith("room."));
      }
    }
    t.due("there is an example", calls > 0);
  }

  private static void namesAllCalls(Due t, String text) {
    Set<String> names = new TreeSet<>();
    for (Method method : DotsOnGrass.class.getMethods()) {
      if (method.getDeclaringClass() == DotsOnGrass.class) {
        names.add(method.getName());
      }
    }
    for (String name : names) {
      t.due("tells of " + name, text.contains("`" + name + "("));
    }
  }
}
