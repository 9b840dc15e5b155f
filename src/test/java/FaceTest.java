import java.io.IOException;
import java.lang.reflect.Constructor;
import java.lang.reflect.Field;
import java.lang.reflect.Method;
import java.lang.reflect.Modifier;
import java.nio.file.Files;
import java.nio.file.Path;
import java.util.ArrayList;
import java.util.Arrays;
import java.util.List;
import java.util.Set;
import java.util.TreeSet;

/** The class has the document's face, and nothing else that can be seen from outside. */
public final class FaceTest {
  private static final String[] METHODS = {
    "marcher(int)", "ill(int,boolean)", "bound(int,int)", "picture(int)", "counts(int,int)",
    "line(int,int,int,int,int,int)", "block(int,int,int,int,int,int)",
    "corner(int,int,int,int,int)", "solo(int,int,boolean)", "scrub(int)", "rule(int,int)",
    "drums(int,int)", "dot(int,int,int)", "set(int,int)", "steps(int,int)",
    "way(int,int,int,int)", "closest(int,int,int)", "late(int,int)", "hole(int)", "ready()",
    "many(int)", "keep()", "back()"
  };
  private static final String[] CONSTANTS = {"NUMBER", "FULL", "NONE", "PLACE", "ILL"};

  public static void main(String[] args) throws Exception {
    Due t = new Due("face");
    int modifiers = DotsOnGrass.class.getModifiers();
    t.due("public and final", Modifier.isPublic(modifiers) && Modifier.isFinal(modifiers));
    methods(t);
    constants(t);
    Constructor<?>[] makers = DotsOnGrass.class.getDeclaredConstructors();
    t.due("constructors", 1, makers.length);
    t.due("parameters", 0, makers[0].getParameterCount());
    t.due("it is public", Modifier.isPublic(makers[0].getModifiers()));
    t.due("NUMBER", -1, DotsOnGrass.NUMBER);
    t.due("FULL", -2, DotsOnGrass.FULL);
    t.due("NONE", -3, DotsOnGrass.NONE);
    t.due("PLACE", -4, DotsOnGrass.PLACE);
    t.due("ILL", -5, DotsOnGrass.ILL);
    sourceTellsTheFace(t);
    t.end();
  }

  /** Names of parameters, the order, and what the interface says ahead of the calls. */
  private static void sourceTellsTheFace(Due t) throws IOException {
    String document = Files.readString(Path.of("../shared/DOC.md"));
    int start = document.indexOf("```java");
    List<String> want =
        publicLines(document.substring(start, document.indexOf("```", start + 3)));
    want.add(want.indexOf("public int marcher(int bound)"), "---- who and where");
    want.add(want.indexOf("public int set(int picture, int marcher)"), "---- settings");
    want.add(want.indexOf("public int keep()"), "---- kept");
    List<String> got =
        publicLines(Files.readString(Path.of("src/main/java/DotsOnGrass.java")));
    t.due("lines of the face", 33, want.size());
    t.due("the source's " + got + " are the document's " + want, want.equals(got));
  }

  /** The lines that begin with public, and the three that part them, without signs behind. */
  private static List<String> publicLines(String text) {
    List<String> lines = new ArrayList<>();
    for (String line : text.split("\n")) {
      String bare = line.trim().replaceFirst("^// ", "").replaceFirst("\\s*[;{]$", "");
      boolean parts = List.of("---- who and where", "---- settings", "---- kept").contains(bare);
      if (parts || bare.startsWith("public ")) {
        lines.add(bare);
      }
    }
    return lines;
  }

  private static void methods(Due t) {
    Set<String> want = new TreeSet<>(Arrays.asList(METHODS));
    Set<String> names = new TreeSet<>();
    Set<String> got = new TreeSet<>();
    for (String method : METHODS) {
      names.add(method.substring(0, method.indexOf('(')));
    }
    for (Method m : DotsOnGrass.class.getDeclaredMethods()) {
      if (Modifier.isPrivate(m.getModifiers())) {
        t.due("private " + m.getName() + " has a public name", !names.contains(m.getName()));
        continue;
      }
      t.due("public, not static " + m,
          Modifier.isPublic(m.getModifiers()) && !Modifier.isStatic(m.getModifiers()));
      t.due("int " + m, m.getReturnType() == int.class);
      StringBuilder face = new StringBuilder(m.getName()).append('(');
      for (Class<?> type : m.getParameterTypes()) {
        face.append(face.charAt(face.length() - 1) == '(' ? "" : ",").append(type.getName());
      }
      got.add(face.append(')').toString());
    }
    t.due("methods " + got, want.equals(got));
  }

  private static void constants(Due t) {
    Set<String> got = new TreeSet<>();
    for (Field f : DotsOnGrass.class.getDeclaredFields()) {
      int modifiers = f.getModifiers();
      if (Modifier.isStatic(modifiers)) {
        t.due("final " + f, Modifier.isFinal(modifiers));
      }
      if (!Modifier.isPrivate(modifiers)) {
        t.due("constant " + f, Modifier.isPublic(modifiers) && Modifier.isStatic(modifiers));
        got.add(f.getName());
      }
    }
    t.due("constants " + got, new TreeSet<>(Arrays.asList(CONSTANTS)).equals(got));
  }
}
