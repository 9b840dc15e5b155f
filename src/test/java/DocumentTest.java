import java.io.IOException;
import java.nio.file.Files;
import java.nio.file.Path;

/**
 * The document from its first line to its last, each sentence with calls that would answer
 * otherwise if it did not hold. A sentence that is in the document and not here, or here and not in
 * the document, is told as wrong.
 */
public final class DocumentTest {
  private static final int NUMBER = -1;
  private static final int FULL = -2;
  private static final int NONE = -3;
  private static final int PLACE = -4;
  private static final int ILL = -5;

  private final Due t = new Due("document");
  private String rest;
  private String sentence = "";

  private DocumentTest(String document) {
    rest = withoutHeadings(document);
  }

  public static void main(String[] args) throws IOException {
    DocumentTest test = new DocumentTest(Files.readString(Path.of("../shared/DOC.md")));
    test.whatItIs();
    test.termsOfGrass();
    test.termsOfShapes();
    test.termsOfSettings();
    test.termsOfWhatMayBe();
    test.termsOfTheSetting();
    test.termsOfDrumsAndHoles();
    test.refusals();
    test.constants();
    test.sections();
    test.promises1To6();
    test.promises7To9();
    test.promises10To14();
    test.promises15And16();
    test.promises17And18();
    test.promises19And20();
    test.promises21And22();
    test.promises23And24();
    test.notPromised();
    test.nothingIsLeft();
  }

  /** The face is FaceTest's; headings, fences and the terms' numbers say nothing. */
  private static String withoutHeadings(String document) {
    StringBuilder text = new StringBuilder();
    boolean inFace = false;
    for (String line : document.split("\n")) {
      if (line.startsWith("```")) {
        inFace = line.equals("```java");
      } else if (!inFace && !line.startsWith("#")) {
        text.append(line.replaceFirst("^[123]\\. ", "")).append('\n');
      }
    }
    return text.toString();
  }

  /** The next sentence of the document, in its own words. */
  private void says(String words) {
    sentence = words;
    t.due("the document says: " + words, rest.contains(words));
    int at = rest.indexOf(words);
    if (at >= 0) {
      rest = rest.substring(0, at) + rest.substring(at + words.length());
    }
  }

  /** Calls and answers by turns, on a new object. */
  private DotsOnGrass run(Object... callsAndAnswers) {
    DotsOnGrass room = new DotsOnGrass();
    on(room, callsAndAnswers);
    return room;
  }

  private void on(DotsOnGrass room, Object... callsAndAnswers) {
    StringBuilder told = new StringBuilder().append('"').append(sentence).append("\":");
    for (int i = 0; i + 1 < callsAndAnswers.length; i += 2) {
      Call call = new Call((String) callsAndAnswers[i]);
      told.append(' ').append(call);
      t.due(told.toString(), (Integer) callsAndAnswers[i + 1], call.on(room));
    }
  }

  private void nothingIsLeft() {
    t.due("nothing of the document is left: " + rest.trim(), rest.isBlank());
    t.end();
  }

  // ---- What it is

  private void whatItIs() {
    says("A drill writer's room: pictures of dots on grass, who takes which dot for the least steps "
        + "with nobody coming near another one at any half count, solo dots that must be taken, "
        + "bounds of instruments, holes when somebody is ill, and how late the drums sound.");
    run("marcher(4)", 0, "marcher(4)", 1, "picture(1)", 0, "line(0, 2, 10, 10, 2, 0)", 2,
        "picture(1)", 1, "line(1, 2, 12, 12, -2, 0)", 2, "set(1, 0)", 1, "set(1, 1)", 0,
        "line(1, 1, 14, 10, 0, 0)", 3, "solo(1, 2, true)", 1, "set(1, 0)", 0, "set(1, 1)", 2,
        "bound(1, 1)", 4, "ready()", 1, "hole(1)", 1, "late(0, 0)", 2);

    says("An object is used for at most 512 calls after it has been made; what later calls answer "
        + "is free.");
    DotsOnGrass room = run("marcher(1)", 0, "marcher(1)", 1, "picture(1)", 0, "picture(1)", 1,
        "line(0, 2, 0, 0, 1, 0)", 2, "line(1, 2, 0, 1, 1, 0)", 2, "keep()", 1, "rule(1, 1)", 10);
    for (int made = 8; made + 14 <= 512; made += 14) {
      on(room, "ill(0, true)", 1, "set(1, 1)", 0, "scrub(1)", 1, "line(1, 1, 1, 2, 0, 0)", 2,
          "solo(1, 1, true)", 1, "ready()", 1, "marcher(1)", 2, "picture(1)", 2, "back()", 1,
          "set(1, 1)", 1, "hole(0)", 2, "many(5)", 2, "keep()", 1, "rule(1, 1)", 10);
    }
  }

  // ---- Terms

  private void termsOfGrass() {
    says("GRASS has places (x, y), each 0 to 40.");
    run("picture(1)", 0, "line(0, 1, 0, 0, 0, 0)", 1, "line(0, 1, 40, 40, 0, 0)", 2,
        "line(0, 1, 41, 0, 0, 0)", PLACE, "line(0, 1, 0, 41, 0, 0)", PLACE,
        "line(0, 1, -1, 0, 0, 0)", PLACE, "line(0, 1, 0, -1, 0, 0)", PLACE, "drums(0, 40)", 1,
        "drums(40, 0)", 1, "drums(41, 0)", PLACE, "drums(0, 41)", PLACE);

    says("MARCHERS are numbered from 0 as they come, 6 at most, each with a BOUND (1 to 4 steps a "
        + "COUNT), PRESENT (at first) or ILL.");
    run("marcher(1)", 0, "marcher(2)", 1, "marcher(3)", 2, "marcher(4)", 3, "marcher(0)", NUMBER,
        "marcher(5)", NUMBER, "marcher(1)", 4, "marcher(1)", 5, "marcher(1)", FULL, "many(1)", 6,
        "bound(0, 1)", 1, "bound(1, 1)", 2, "bound(2, 1)", 3, "bound(3, 1)", 4, "ill(3, false)", 0,
        "ill(3, true)", 1, "many(1)", 5, "many(0)", 6, "marcher(1)", FULL);

    says("PICTURES are numbered from 0 as they come, 5 at most, each with COUNTS (1 to 16) and "
        + "DOTS, numbered from 0 as they come, 7 at most, at unlike places; a DOT may be a SOLO.");
    run("picture(1)", 0, "picture(16)", 1, "picture(17)", NUMBER, "picture(0)", NUMBER,
        "picture(2)", 2, "picture(3)", 3, "picture(4)", 4, "picture(5)", FULL, "counts(1, 2)", 16,
        "counts(4, 2)", 4, "many(3)", 0, "line(4, 3, 5, 5, 1, 0)", 3, "line(4, 3, 5, 6, 1, 0)", 6,
        "dot(4, 0, 1)", 5, "dot(4, 3, 1)", 6, "line(4, 1, 6, 5, 0, 0)", PLACE,
        "line(3, 1, 6, 5, 0, 0)", 1, "line(4, 2, 0, 0, 1, 0)", FULL, "line(4, 1, 0, 0, 0, 0)", 7,
        "line(4, 1, 1, 0, 0, 0)", FULL, "dot(4, 6, 2)", 0, "solo(4, 6, true)", 1,
        "dot(4, 6, 2)", 1);
  }

  private void termsOfShapes() {
    says("DOTS come by shapes: a LINE: n DOTS (1 to 7), the first at (x, y), each next one by "
        + "(dx, dy) further (both -10 to 10);");
    run("picture(1)", 0, "line(0, 0, 9, 30, 1, 1)", NUMBER, "line(0, 8, 0, 0, 1, 1)", NUMBER,
        "line(0, 2, 20, 20, 11, 0)", NUMBER, "line(0, 2, 20, 20, 0, -11)", NUMBER,
        "line(0, 3, 9, 30, 10, -10)", 3, "dot(0, 0, 0)", 9, "dot(0, 0, 1)", 30, "dot(0, 1, 0)", 19,
        "dot(0, 1, 1)", 20, "dot(0, 2, 0)", 29, "dot(0, 2, 1)", 10);
    run("picture(1)", 0, "line(0, 7, 6, 0, -1, 6)", 7, "dot(0, 6, 0)", 0, "dot(0, 6, 1)", 36);

    says("a BLOCK: h rows of w DOTS (both 1 to 4), row by row, the first at (x, y), GAP (1 to 5) "
        + "apart both ways;");
    run("picture(1)", 0, "block(0, 1, 2, 5, 1, 1)", NUMBER, "block(0, 1, 2, 1, 5, 1)", NUMBER,
        "block(0, 1, 2, 3, 2, 6)", NUMBER, "block(0, 1, 2, 3, 2, 5)", 6, "dot(0, 0, 0)", 1,
        "dot(0, 0, 1)", 2, "dot(0, 1, 0)", 6, "dot(0, 1, 1)", 2, "dot(0, 2, 0)", 11,
        "dot(0, 2, 1)", 2, "dot(0, 3, 0)", 1, "dot(0, 3, 1)", 7, "dot(0, 5, 0)", 11,
        "dot(0, 5, 1)", 7);
    run("picture(1)", 0, "block(0, 9, 9, 1, 4, 1)", 4, "dot(0, 3, 0)", 9, "dot(0, 3, 1)", 12);

    says("a CORNER: n DOTS (1 to 4) that go from (x, y) along x by GAP, and as many less one that "
        + "go from the last of these along y by GAP.");
    run("picture(1)", 0, "corner(0, 1, 2, 5, 1)", NUMBER, "corner(0, 1, 2, 3, 6)", NUMBER,
        "corner(0, 1, 2, 3, 5)", 5, "dot(0, 0, 0)", 1, "dot(0, 0, 1)", 2, "dot(0, 1, 0)", 6,
        "dot(0, 1, 1)", 2, "dot(0, 2, 0)", 11, "dot(0, 2, 1)", 2, "dot(0, 3, 0)", 11,
        "dot(0, 3, 1)", 7, "dot(0, 4, 0)", 11, "dot(0, 4, 1)", 12);
    run("picture(1)", 0, "corner(0, 25, 25, 4, 5)", 7, "dot(0, 6, 0)", 40, "dot(0, 6, 1)", 40);
    run("picture(1)", 0, "corner(0, 40, 40, 1, 5)", 1);
  }

  private void termsOfSettings() {
    says("THE STEP from one place to another one is the greater of the sizes of the differences of "
        + "x and of y.");
    run("marcher(4)", 0, "picture(1)", 0, "line(0, 1, 20, 20, 0, 0)", 1, "picture(9)", 1,
        "line(1, 1, 13, 25, 0, 0)", 1, "steps(1, 0)", 7, "picture(9)", 2,
        "line(2, 1, 9, 2, 0, 0)", 1, "steps(2, 0)", 23, "picture(9)", 3,
        "line(3, 1, 12, 5, 0, 0)", 1, "steps(3, 0)", 3);

    says("A SETTING of a PICTURE gives each PRESENT MARCHER a DOT, no two the same, and all SOLOS "
        + "are given.");
    run("marcher(1)", 0, "marcher(1)", 1, "marcher(1)", 2, "picture(1)", 0,
        "line(0, 2, 0, 0, 1, 0)", 2, "ready()", 0, "ill(1, true)", 1, "ready()", 1, "set(0, 0)", 0,
        "set(0, 2)", 1, "line(0, 2, 0, 1, 1, 0)", 4, "solo(0, 3, true)", 1, "set(0, 0)", 0,
        "set(0, 2)", 3, "solo(0, 2, true)", 1, "set(0, 0)", 2, "set(0, 2)", 3,
        "solo(0, 1, true)", 1, "ready()", 0, "ill(1, false)", 1, "set(0, 0)", 1, "set(0, 1)", 2,
        "set(0, 2)", 3);

    says("One goes from its DOT in the PICTURE ahead to that of this one in a straight line, "
        + "evenly, in twice as many HALF COUNTS as there are COUNTS: at HALF COUNT t (0 to 2 "
        + "COUNTS) it is at its place there and t / (2 COUNTS) of the difference.");
    run("marcher(4)", 0, "picture(1)", 0, "line(0, 1, 10, 30, 0, 0)", 1, "picture(3)", 1,
        "line(1, 1, 15, 18, 0, 0)", 1, "way(1, 0, 0, 0)", 10, "way(1, 0, 0, 2)", 30,
        "way(1, 0, 1, 0)", 65, "way(1, 0, 1, 1)", 6, "way(1, 0, 1, 2)", 28, "way(1, 0, 1, 3)", 1,
        "way(1, 0, 5, 0)", 85, "way(1, 0, 5, 1)", 6, "way(1, 0, 5, 2)", 20, "way(1, 0, 6, 0)", 15,
        "way(1, 0, 6, 2)", 18, "way(1, 0, 7, 0)", NUMBER, "way(1, 0, -1, 0)", NUMBER);
  }

  private void termsOfWhatMayBe() {
    says("A SETTING of a PICTURE behind the first one MAY be, if from THE SETTING of the one ahead "
        + "each STEP is its BOUND times COUNTS at most, and at no HALF COUNT but the first and last "
        + "THE STEP between two (where they are then) is below APART (0 to 3; 1 at first).");
    run("marcher(2)", 0, "picture(1)", 0, "line(0, 1, 0, 0, 0, 0)", 1, "picture(3)", 1,
        "line(1, 1, 6, 0, 0, 0)", 1, "ready()", 2, "scrub(1)", 0, "line(1, 1, 7, 0, 0, 0)", 1,
        "ready()", 1, "bound(0, 3)", 2, "ready()", 2, "bound(0, 2)", 3, "counts(1, 4)", 3,
        "ready()", 2);
    // MARCHER 0 stays, it can't else; MARCHER 1 goes by its side, half way 1 from it
    run("marcher(1)", 0, "marcher(4)", 1, "picture(1)", 0, "line(0, 1, 10, 10, 0, 0)", 1,
        "line(0, 1, 12, 11, 0, 0)", 2, "picture(1)", 1, "line(1, 1, 10, 10, 0, 0)", 1,
        "line(1, 1, 8, 11, 0, 0)", 2, "set(1, 1)", 1, "rule(0, 2)", 1, "set(1, 1)", NONE,
        "rule(0, 3)", 2, "rule(0, 4)", NUMBER, "rule(0, 0)", 3, "set(1, 1)", 1);
    // from 2 apart to 4: 3 half way, 2 1/2 at HALF COUNT 1 of 4
    run("marcher(1)", 0, "marcher(4)", 1, "rule(0, 3)", 1, "picture(1)", 0,
        "line(0, 2, 10, 10, 2, 0)", 2, "picture(1)", 1, "line(1, 2, 10, 10, 4, 0)", 2, "ready()", 2,
        "counts(1, 2)", 1, "ready()", 1);
    // and from 4 to 2: neither the last one is asked, but the one ahead of it
    run("marcher(1)", 0, "marcher(4)", 1, "rule(0, 3)", 1, "picture(1)", 0,
        "line(0, 2, 10, 10, 4, 0)", 2, "picture(1)", 1, "line(1, 2, 10, 10, 2, 0)", 2, "ready()", 2,
        "counts(1, 2)", 1, "ready()", 1);
  }

  private void termsOfTheSetting() {
    says("THE SETTING of PICTURE 0 is, of all, the one in which the first MARCHER for which they "
        + "are unlike has the lesser DOT.");
    run("marcher(1)", 0, "marcher(1)", 1, "marcher(1)", 2, "picture(1)", 0,
        "line(0, 5, 40, 40, -10, 0)", 5, "set(0, 0)", 0, "set(0, 1)", 1, "set(0, 2)", 2,
        "solo(0, 1, true)", 1, "solo(0, 4, true)", 1, "set(0, 0)", 0, "set(0, 1)", 1,
        "set(0, 2)", 4, "rule(0, 3)", 1, "set(0, 2)", 4, "ill(0, true)", 1, "set(0, 1)", 1,
        "set(0, 2)", 4);

    says("THE SETTING of another one is, of those that MAY be, the one with the least greatest "
        + "STEP; of several with the least sum of STEPS; of several the one in which the first "
        + "MARCHER for which they are unlike has the lesser DOT.");
    // 3 + 3 goes ahead of 0 + 4
    run("marcher(4)", 0, "marcher(4)", 1, "rule(0, 0)", 1, "picture(1)", 0,
        "line(0, 2, 20, 20, 3, 0)", 2, "picture(9)", 1, "line(1, 1, 20, 20, 0, 0)", 1,
        "line(1, 1, 27, 20, 0, 0)", 2, "line(1, 1, 17, 20, 0, 0)", 3, "set(1, 0)", 2,
        "set(1, 1)", 0, "steps(1, 0)", 3, "steps(1, 1)", 6);
    // the greatest is 5 with each, for MARCHER 1: MARCHER 0 goes 1, not 4
    run("marcher(4)", 0, "marcher(4)", 1, "picture(1)", 0, "line(0, 2, 20, 20, 10, 0)", 2,
        "picture(9)", 1, "line(1, 1, 20, 24, 0, 0)", 1, "line(1, 1, 20, 19, 0, 0)", 2,
        "line(1, 1, 35, 20, 0, 0)", 3, "set(1, 0)", 1, "set(1, 1)", 2, "steps(1, 0)", 5,
        "steps(1, 1)", 6);
    // 2 + 2 with each: MARCHER 0 takes the lesser DOT, then MARCHER 1 does
    run("marcher(4)", 0, "marcher(4)", 1, "picture(1)", 0, "line(0, 2, 10, 10, 10, 0)", 2,
        "picture(9)", 1, "line(1, 1, 20, 12, 0, 0)", 1, "line(1, 1, 10, 12, 0, 0)", 2,
        "line(1, 1, 10, 8, 0, 0)", 3, "line(1, 1, 20, 8, 0, 0)", 4, "set(1, 0)", 1, "set(1, 1)", 0,
        "steps(1, 1)", 4);
    // 1 + 1 would be the least, but half way they are 1 1/2 apart
    run("marcher(4)", 0, "marcher(4)", 1, "picture(1)", 0, "line(0, 2, 20, 20, 2, 0)", 2,
        "picture(1)", 1, "line(1, 2, 20, 21, 1, 0)", 2, "line(1, 1, 24, 20, 0, 0)", 3,
        "set(1, 0)", 0, "set(1, 1)", 1, "rule(0, 2)", 1, "set(1, 0)", 0, "set(1, 1)", 2,
        "steps(1, 0)", 2, "steps(1, 1)", 3);

    says("There is none if none MAY be, or the one ahead has none.");
    run("marcher(1)", 0, "picture(1)", 0, "picture(1)", 1, "picture(1)", 2,
        "line(0, 1, 0, 0, 0, 0)", 1, "line(1, 1, 2, 0, 0, 0)", 1, "line(2, 1, 2, 0, 0, 0)", 1,
        "set(0, 0)", 0, "set(1, 0)", NONE, "set(2, 0)", NONE, "counts(1, 2)", 1, "set(1, 0)", 0,
        "set(2, 0)", 0);
  }

  private void termsOfDrumsAndHoles() {
    says("THE DRUMS stand at a place ((20, 0) at first).");
    run("marcher(1)", 0, "rule(1, 1)", 10, "picture(1)", 0, "line(0, 1, 20, 0, 0, 0)", 1,
        "late(0, 0)", 0, "drums(17, 4)", 1, "late(0, 0)", 7);

    says("A MARCHER hears them LATE: the sizes of the differences of x and y, together, by SPEED (1 "
        + "to 20; 10 at first), the rest away.");
    run("marcher(1)", 0, "picture(1)", 0, "line(0, 1, 1, 20, 0, 0)", 1, "late(0, 0)", 3,
        "rule(1, 20)", 10, "late(0, 0)", 1, "rule(1, 21)", NUMBER, "rule(1, 0)", NUMBER,
        "rule(1, 1)", 20, "late(0, 0)", 39, "drums(0, 40)", 1, "late(0, 0)", 21);

    says("A HOLE: what would be, if one more MARCHER were ILL.");
    run("marcher(1)", 0, "marcher(1)", 1, "marcher(1)", 2, "picture(1)", 0,
        "line(0, 3, 0, 0, 1, 0)", 3, "set(0, 0)", 0, "set(0, 1)", 1, "set(0, 2)", 2, "hole(0)", 2,
        "many(1)", 3, "set(0, 2)", 2, "ill(0, true)", 1, "set(0, 1)", 0, "set(0, 2)", 1,
        "hole(1)", 1);
  }

  // ---- refusals and constants

  private void refusals() {
    says("A call that is refused (answers below 0, where not told otherwise) changes nothing.");
    run("marcher(2)", 0, "picture(3)", 0, "line(0, 2, 5, 5, 1, 0)", 2, "marcher(5)", NUMBER,
        "bound(0, 5)", NUMBER, "picture(17)", NUMBER, "counts(0, 17)", NUMBER,
        "line(0, 3, 38, 5, 1, 1)", 5, "line(0, 2, 39, 9, 2, 0)", PLACE,
        "block(0, 5, 4, 1, 2, 1)", PLACE, "corner(0, 40, 0, 2, 1)", FULL, "rule(0, 4)", NUMBER,
        "rule(1, 21)", NUMBER, "drums(3, 41)", PLACE, "solo(0, 5, true)", NUMBER, "back()", NONE,
        "many(0)", 1, "many(2)", 1, "many(3)", 5, "many(4)", 0, "bound(0, 2)", 2, "counts(0, 3)", 3,
        "rule(0, 1)", 1, "rule(1, 1)", 10, "late(0, 0)", 20, "dot(0, 4, 0)", 40,
        "dot(0, 5, 0)", NUMBER);

    says("Of several refusals that a call names the first one named is answered.");
    DotsOnGrass room = run("marcher(1)", 0, "marcher(1)", 1, "marcher(1)", 2, "marcher(1)", 3,
        "marcher(1)", 4, "marcher(1)", 5, "picture(1)", 0, "picture(1)", 1, "picture(1)", 2,
        "picture(1)", 3, "picture(1)", 4, "line(1, 6, 0, 0, 1, 0)", 6, "ill(0, true)", 1);
    on(room, "marcher(5)", NUMBER, "picture(17)", NUMBER, "line(1, 8, 50, 0, 0, 0)", NUMBER,
        "line(1, 2, 50, 0, 0, 0)", FULL, "block(1, 50, 0, 4, 4, 6)", NUMBER,
        "block(1, 50, 0, 4, 4, 5)", FULL, "corner(1, 50, 0, 5, 5)", NUMBER,
        "corner(1, 50, 0, 4, 5)", FULL, "set(5, 0)", NUMBER, "set(0, 0)", ILL,
        "steps(0, 3)", NUMBER, "way(1, 0, 3, 0)", NUMBER, "way(1, 0, 2, 0)", ILL,
        "closest(1, 0, 0)", NUMBER, "closest(1, 0, 1)", ILL, "closest(1, 1, 0)", ILL,
        "late(5, 0)", NUMBER, "late(0, 0)", ILL);
  }

  private void constants() {
    String[] told = {"The constants: `NUMBER = -1`: A number is none, or none that may be.",
      "`FULL = -2`: There are as many as may be.", "`NONE = -3`: There is none.",
      "`PLACE = -4`: A DOT would not be on GRASS, or where one is already.",
      "`ILL = -5`: A MARCHER is ILL."};
    int[] constants = {DotsOnGrass.NUMBER, DotsOnGrass.FULL, DotsOnGrass.NONE, DotsOnGrass.PLACE,
      DotsOnGrass.ILL};
    for (int i = 0; i < told.length; i++) {
      says(told[i]);
      t.due(told[i], -1 - i, constants[i]);
    }
    run("ill(0, true)", NUMBER, "picture(1)", 0, "scrub(0)", NONE, "line(0, 7, 0, 0, 1, 0)", 7,
        "line(0, 1, 0, 1, 0, 0)", FULL, "scrub(0)", 6, "line(0, 1, 0, 0, 0, 0)", PLACE,
        "line(0, 1, 0, 41, 0, 0)", PLACE, "marcher(1)", 0, "ill(0, true)", 1, "set(0, 0)", ILL);
  }

  /** How the interface is parted is to be seen in the source alone: FaceTest looks there. */
  private void sections() {
    says("Ahead of the calls `marcher`, `ill`, `bound`, `picture`, `counts`, `line`, `block`, "
        + "`corner`, `solo`, `scrub`, `rule`, `drums`, `dot` the interface says: ---- who and "
        + "where.");
    says("Ahead of the calls `set`, `steps`, `way`, `closest`, `late`, `hole`, `ready`, `many` the "
        + "interface says: ---- settings.");
    says("Ahead of the calls `keep`, `back` the interface says: ---- kept.");
  }

  // ---- Promises

  private void promises1To6() {
    says("`DotsOnGrass()`: No MARCHERS, no PICTURES; nothing is kept.");
    run("many(0)", 0, "many(1)", 0, "many(2)", 0, "many(3)", 0, "many(4)", 0, "many(5)", 0,
        "ready()", 0, "back()", NONE, "hole(0)", NUMBER, "scrub(0)", NUMBER, "marcher(1)", 0,
        "picture(1)", 0);

    says("`int marcher(int bound)`: A MARCHER comes: its number. NUMBER: bound isn't 1 to 4; FULL.");
    run("marcher(0)", NUMBER, "marcher(5)", NUMBER, "marcher(MIN)", NUMBER, "marcher(MAX)", NUMBER,
        "marcher(4)", 0, "marcher(1)", 1, "marcher(2)", 2, "marcher(3)", 3, "marcher(4)", 4,
        "marcher(4)", 5, "marcher(4)", FULL, "marcher(0)", NUMBER, "many(0)", 6);
    run("marcher(1)", 0, "picture(1)", 0, "line(0, 1, 0, 0, 0, 0)", 1, "set(0, 0)", 0,
        "marcher(1)", 1, "set(0, 0)", NONE);

    says("`int ill(int marcher, boolean is)`: A MARCHER is ILL, or PRESENT: 1 if that is new, else "
        + "0. NUMBER: there is none such.");
    run("ill(0, false)", NUMBER, "marcher(1)", 0, "ill(0, false)", 0, "ill(0, true)", 1,
        "ill(0, true)", 0, "many(1)", 0, "ill(0, false)", 1, "many(1)", 1, "ill(1, true)", NUMBER,
        "ill(-1, true)", NUMBER, "ill(MIN, true)", NUMBER, "ill(MAX, true)", NUMBER);

    says("`int bound(int marcher, int v)`: The BOUND of a MARCHER: what it was. NUMBER: there is "
        + "none such, or v isn't 1 to 4.");
    run("bound(0, 1)", NUMBER, "marcher(3)", 0, "bound(0, 1)", 3, "bound(0, 4)", 1,
        "bound(0, 5)", NUMBER, "bound(0, 0)", NUMBER, "bound(1, 1)", NUMBER, "bound(-1, 1)", NUMBER,
        "bound(0, 2)", 4);

    says("`int picture(int counts)`: A PICTURE comes, without DOTS: its number. NUMBER: counts "
        + "aren't 1 to 16; FULL.");
    run("picture(0)", NUMBER, "picture(17)", NUMBER, "picture(16)", 0, "many(3)", 0,
        "scrub(0)", NONE, "picture(1)", 1, "picture(2)", 2, "picture(3)", 3, "picture(4)", 4,
        "picture(4)", FULL, "picture(17)", NUMBER, "many(2)", 5);

    says("`int counts(int picture, int v)`: COUNTS of a PICTURE: what they were. NUMBER: there is "
        + "none such, or v isn't 1 to 16.");
    run("counts(0, 1)", NUMBER, "picture(7)", 0, "counts(0, 16)", 7, "counts(0, 1)", 16,
        "counts(0, 0)", NUMBER, "counts(0, 17)", NUMBER, "counts(1, 1)", NUMBER,
        "counts(-1, 1)", NUMBER, "counts(0, 2)", 1);
  }

  private void promises7To9() {
    says("`int line(int picture, int n, int x, int y, int dx, int dy)`: A LINE: how many DOTS there "
        + "are. NUMBER: there is no such PICTURE, n isn't 1 to 7, dx or dy isn't -10 to 10; FULL: "
        + "there would be more than 7; PLACE (also of the shape's own DOTS at one place).");
    run("line(0, 1, 0, 0, 0, 0)", NUMBER, "picture(1)", 0, "line(0, 0, 0, 0, 1, 0)", NUMBER,
        "line(0, 8, 0, 0, 1, 0)", NUMBER, "line(0, 1, 0, 0, 11, 0)", NUMBER,
        "line(0, 1, 0, 0, 0, -11)", NUMBER, "line(0, 2, 3, 3, 0, 0)", PLACE,
        "line(0, 1, 3, 3, 0, 0)", 1, "line(0, 5, 4, 3, 1, 0)", 6, "line(0, 2, 4, 4, 1, 0)", FULL,
        "line(0, 2, 3, 3, 0, 0)", FULL, "line(0, 1, 8, 3, 1, 1)", PLACE,
        "line(0, 1, 41, 3, 1, 1)", PLACE, "line(0, 1, 40, 3, 10, 10)", 7);

    says("`int block(int picture, int x, int y, int w, int h, int gap)`: A BLOCK likewise. NUMBER: "
        + "there is no such PICTURE, w or h isn't 1 to 4, or gap not 1 to 5; FULL; PLACE.");
    run("block(0, 0, 0, 1, 1, 1)", NUMBER, "picture(1)", 0, "block(0, 0, 0, 0, 1, 1)", NUMBER,
        "block(0, 0, 0, 5, 1, 1)", NUMBER, "block(0, 0, 0, 1, 0, 1)", NUMBER,
        "block(0, 0, 0, 1, 5, 1)", NUMBER, "block(0, 0, 0, 1, 1, 0)", NUMBER,
        "block(0, 0, 0, 1, 1, 6)", NUMBER, "block(0, 0, 0, 4, 2, 1)", FULL,
        "block(0, 36, 0, 2, 1, 5)", PLACE, "block(0, 0, 36, 1, 2, 5)", PLACE,
        "block(0, 35, 35, 2, 2, 5)", 4, "block(0, 39, 40, 2, 1, 1)", PLACE,
        "block(0, 0, 0, 3, 1, 1)", 7, "block(0, 9, 9, 1, 1, 1)", FULL);

    says("`int corner(int picture, int x, int y, int n, int gap)`: A CORNER likewise. NUMBER: there "
        + "is no such PICTURE, n isn't 1 to 4, or gap not 1 to 5; FULL; PLACE.");
    run("corner(0, 0, 0, 1, 1)", NUMBER, "picture(1)", 0, "corner(0, 0, 0, 0, 1)", NUMBER,
        "corner(0, 0, 0, 5, 1)", NUMBER, "corner(0, 0, 0, 1, 0)", NUMBER,
        "corner(0, 0, 0, 1, 6)", NUMBER, "corner(0, 36, 0, 2, 5)", PLACE,
        "corner(0, 0, 36, 2, 5)", PLACE, "corner(0, 35, 35, 2, 5)", 3,
        "corner(0, 39, 39, 2, 1)", PLACE, "corner(0, 0, 0, 4, 1)", FULL,
        "corner(0, 0, 0, 2, 1)", 6, "corner(0, 20, 20, 2, 1)", FULL, "corner(0, 9, 9, 1, 1)", 7);
  }

  private void promises10To14() {
    says("`int solo(int picture, int dot, boolean is)`: A DOT is a SOLO, or not: 1 if that is new, "
        + "else 0. NUMBER: there is no such PICTURE, DOT.");
    run("solo(0, 0, true)", NUMBER, "picture(1)", 0, "solo(0, 0, true)", NUMBER,
        "line(0, 1, 0, 0, 0, 0)", 1, "solo(0, 0, false)", 0, "solo(0, 0, true)", 1,
        "solo(0, 0, true)", 0, "many(4)", 1, "solo(0, 0, false)", 1, "many(4)", 0,
        "solo(0, 1, true)", NUMBER, "solo(0, -1, true)", NUMBER, "solo(1, 0, true)", NUMBER);

    says("`int scrub(int picture)`: The latest DOT of a PICTURE is no more: how many there are. "
        + "NUMBER: there is no such PICTURE; NONE: it has none.");
    run("scrub(0)", NUMBER, "picture(1)", 0, "scrub(0)", NONE, "line(0, 2, 3, 3, 1, 1)", 2,
        "solo(0, 1, true)", 1, "scrub(0)", 1, "many(4)", 0, "dot(0, 1, 0)", NUMBER,
        "dot(0, 0, 0)", 3, "line(0, 1, 4, 4, 0, 0)", 2, "dot(0, 1, 2)", 0, "scrub(0)", 1,
        "scrub(0)", 0, "scrub(0)", NONE, "scrub(1)", NUMBER, "scrub(-1)", NUMBER);

    says("`int rule(int what, int v)`: What = 0 APART, 1 SPEED is v: what it was. NUMBER: another "
        + "what, or v isn't as told.");
    run("rule(0, 0)", 1, "rule(0, 3)", 0, "rule(0, 4)", NUMBER, "rule(0, -1)", NUMBER,
        "rule(0, 2)", 3, "rule(1, 1)", 10, "rule(1, 20)", 1, "rule(1, 21)", NUMBER,
        "rule(1, 0)", NUMBER, "rule(1, 5)", 20, "rule(2, 1)", NUMBER, "rule(-1, 1)", NUMBER,
        "rule(0, 1)", 2, "rule(1, 1)", 5);

    says("`int drums(int x, int y)`: THE DRUMS stand at a place: 1. PLACE: it isn't on GRASS.");
    run("drums(0, 0)", 1, "drums(40, 40)", 1, "drums(-1, 0)", PLACE, "drums(0, -1)", PLACE,
        "drums(41, 0)", PLACE, "drums(0, 41)", PLACE, "marcher(1)", 0, "picture(1)", 0,
        "line(0, 1, 30, 33, 0, 0)", 1, "rule(1, 1)", 10, "late(0, 0)", 17);

    says("`int dot(int picture, int dot, int what)`: Of a DOT: what = 0 x, 1 y, 2 1 if it is a SOLO, "
        + "else 0. NUMBER: there is no such PICTURE, DOT, another what.");
    run("dot(0, 0, 0)", NUMBER, "picture(1)", 0, "dot(0, 0, 0)", NUMBER,
        "line(0, 2, 8, 9, 3, 4)", 2, "dot(0, 1, 0)", 11, "dot(0, 1, 1)", 13, "dot(0, 1, 2)", 0,
        "solo(0, 1, true)", 1, "dot(0, 1, 2)", 1, "dot(0, 0, 2)", 0, "dot(0, 1, 3)", NUMBER,
        "dot(0, 1, -1)", NUMBER, "dot(0, 2, 0)", NUMBER, "dot(1, 0, 0)", NUMBER);
  }

  private void promises15And16() {
    says("`int set(int picture, int marcher)`: The DOT that THE SETTING of a PICTURE gives a "
        + "MARCHER. NUMBER: there is no such PICTURE, MARCHER; ILL: it is ILL; NONE: there is no "
        + "SETTING.");
    run("set(0, 0)", NUMBER, "marcher(1)", 0, "set(0, 0)", NUMBER, "picture(1)", 0,
        "set(0, 0)", NONE, "set(0, 1)", NUMBER, "set(1, 0)", NUMBER, "line(0, 2, 0, 0, 1, 0)", 2,
        "set(0, 0)", 0, "solo(0, 1, true)", 1, "set(0, 0)", 1, "ill(0, true)", 1, "set(0, 0)", ILL);

    says("`int steps(int picture, int what)`: Of THE SETTING of a PICTURE: what = 0 the greatest "
        + "STEP, 1 the sum of STEPS (both 0 of PICTURE 0), 2 how many DOTS aren't given. NUMBER: "
        + "there is no such PICTURE, another what; NONE: there is no SETTING.");
    run("steps(0, 0)", NUMBER, "marcher(4)", 0, "marcher(4)", 1, "picture(1)", 0,
        "steps(0, 0)", NONE, "line(0, 3, 10, 10, 10, 0)", 3, "steps(0, 0)", 0, "steps(0, 1)", 0,
        "steps(0, 2)", 1, "picture(8)", 1, "steps(1, 0)", NONE, "line(1, 1, 10, 12, 0, 0)", 1,
        "steps(1, 2)", NONE, "line(1, 1, 20, 17, 0, 0)", 2, "steps(1, 0)", 7, "steps(1, 1)", 9,
        "steps(1, 2)", 0, "steps(1, 3)", NUMBER, "steps(1, -1)", NUMBER, "steps(2, 0)", NUMBER);
  }

  private void promises17And18() {
    says("`int way(int picture, int marcher, int half, int what)`: Where a MARCHER is on its way to a "
        + "PICTURE at a HALF COUNT: what = 0 x above, 1 x below the line, 2, 3 y likewise, cleared "
        + "(0 / 1 if it is 0). NUMBER: there is no such PICTURE, it is 0, there is no such MARCHER, "
        + "HALF COUNT, another what; ILL; NONE: there is no SETTING of it.");
    run("marcher(4)", 0, "picture(1)", 0, "picture(6)", 1, "way(1, 0, 0, 0)", NONE,
        "line(0, 1, 0, 4, 0, 0)", 1, "line(1, 1, 9, 0, 0, 0)", 1, "way(1, 0, 0, 0)", 0,
        "way(1, 0, 0, 1)", 1, "way(1, 0, 2, 0)", 3, "way(1, 0, 2, 1)", 2, "way(1, 0, 2, 2)", 10,
        "way(1, 0, 2, 3)", 3, "way(1, 0, 12, 0)", 9, "way(1, 0, 12, 1)", 1, "way(1, 0, 12, 2)", 0,
        "way(1, 0, 12, 3)", 1, "way(1, 0, 13, 0)", NUMBER, "way(1, 0, -1, 0)", NUMBER,
        "way(1, 0, 0, 4)", NUMBER, "way(1, 0, 0, -1)", NUMBER, "way(0, 0, 0, 0)", NUMBER,
        "way(2, 0, 0, 0)", NUMBER, "way(1, 1, 0, 0)", NUMBER, "ill(0, true)", 1,
        "way(1, 0, 0, 0)", ILL);

    says("`int closest(int picture, int marcher, int other)`: The least STEP between two MARCHERS at "
        + "HALF COUNTS (but the first and last) on their way to a PICTURE, times 2 COUNTS. NUMBER: "
        + "there is no such PICTURE, it is 0, there is no such MARCHER (either), or they are the "
        + "same; ILL: one is; NONE: there is no SETTING of it.");
    // from (5, 0) apart to (3, 4): times 4, (18, 4), (16, 8) and (14, 12)
    run("marcher(4)", 0, "marcher(4)", 1, "picture(1)", 0, "picture(2)", 1,
        "closest(1, 0, 1)", NONE, "line(0, 2, 10, 10, 5, 0)", 2, "line(1, 1, 10, 10, 0, 0)", 1,
        "line(1, 1, 13, 14, 0, 0)", 2, "set(1, 0)", 0, "closest(1, 0, 1)", 14,
        "closest(1, 1, 0)", 14, "closest(0, 0, 1)", NUMBER, "closest(2, 0, 1)", NUMBER,
        "closest(1, 0, 2)", NUMBER, "closest(1, -1, 0)", NUMBER, "closest(1, 1, 1)", NUMBER,
        "ill(1, true)", 1, "closest(1, 0, 1)", ILL, "closest(1, 1, 0)", ILL);
    // from (0, 9) apart to (3, 4): times 6, by y 49, 44, 39, 34 and 29
    run("marcher(4)", 0, "marcher(4)", 1, "picture(1)", 0, "picture(3)", 1,
        "line(0, 2, 10, 10, 0, 9)", 2, "line(1, 1, 10, 10, 0, 0)", 1, "line(1, 1, 13, 14, 0, 0)", 2,
        "closest(1, 0, 1)", 29);
  }

  private void promises19And20() {
    says("`int late(int picture, int marcher)`: How LATE a MARCHER hears THE DRUMS in a PICTURE. "
        + "NUMBER: there is no such PICTURE, MARCHER; ILL; NONE: there is no SETTING.");
    run("marcher(4)", 0, "late(0, 0)", NUMBER, "picture(1)", 0, "late(0, 0)", NONE,
        "late(0, 1)", NUMBER, "line(0, 1, 0, 19, 0, 0)", 1, "late(0, 0)", 3, "picture(1)", 1,
        "line(1, 1, 1, 22, 0, 0)", 1, "late(1, 0)", 4, "ill(0, true)", 1, "late(1, 0)", ILL);

    says("`int hole(int marcher)`: A HOLE: in how many PICTURES a MARCHER who stays would have "
        + "another DOT, by MARCHERS together; a PICTURE that would have a SETTING and has none, or "
        + "has one and would have none, counts as all who stay (and are PRESENT). NUMBER: there is "
        + "no such MARCHER; ILL: it is ILL already.");
    run("hole(0)", NUMBER, "marcher(1)", 0, "marcher(1)", 1, "marcher(1)", 2, "marcher(1)", 3,
        "ill(3, true)", 1, "picture(1)", 0, "line(0, 3, 0, 0, 5, 0)", 3, "picture(1)", 1,
        "line(1, 3, 0, 1, 5, 0)", 3, "hole(0)", 4, "hole(1)", 2, "hole(2)", 0, "hole(3)", ILL,
        "hole(4)", NUMBER, "hole(-1)", NUMBER, "solo(1, 2, true)", 1, "hole(2)", 2,
        "solo(1, 2, false)", 1, "scrub(1)", 2, "hole(2)", 2, "hole(0)", 4);
    // MARCHER 0 would have to take the SOLO
    run("marcher(1)", 0, "marcher(1)", 1, "picture(1)", 0, "line(0, 2, 0, 0, 5, 0)", 2,
        "solo(0, 1, true)", 1, "hole(1)", 1, "hole(0)", 0);
  }

  private void promises21And22() {
    says("`int ready()`: How many PICTURES, from 0 on, have a SETTING.");
    run("ready()", 0, "marcher(1)", 0, "picture(1)", 0, "picture(1)", 1, "picture(1)", 2,
        "line(0, 1, 0, 0, 0, 0)", 1, "ready()", 1, "line(2, 1, 0, 0, 0, 0)", 1, "ready()", 1,
        "line(1, 1, 1, 1, 0, 0)", 1, "ready()", 3, "scrub(0)", 0, "ready()", 0);

    says("`int many(int what)`: How many: what = 0 MARCHERS, 1 that are PRESENT, 2 PICTURES, 3 DOTS "
        + "of all PICTURES, 4 SOLOS, 5 all STEPS of all SETTINGS together. NUMBER: another what.");
    run("marcher(4)", 0, "marcher(4)", 1, "marcher(4)", 2, "ill(0, true)", 1, "picture(8)", 0,
        "line(0, 2, 0, 0, 9, 0)", 2, "picture(8)", 1, "line(1, 3, 0, 3, 9, 0)", 3, "picture(8)", 2,
        "line(2, 2, 0, 5, 9, 0)", 2, "solo(1, 0, true)", 1, "solo(2, 1, true)", 1, "many(0)", 3,
        "many(1)", 2, "many(2)", 3, "many(3)", 7, "many(4)", 2, "many(5)", 10, "scrub(2)", 1,
        "many(5)", 6, "many(4)", 1, "many(6)", NUMBER, "many(-1)", NUMBER);
  }

  private void promises23And24() {
    says("`int keep()`: All is kept: 1.");
    DotsOnGrass room = run("marcher(3)", 0, "ill(0, true)", 1, "picture(7)", 0,
        "line(0, 1, 8, 9, 0, 0)", 1, "solo(0, 0, true)", 1, "rule(0, 2)", 1, "rule(1, 1)", 10,
        "drums(1, 2)", 1, "keep()", 1);
    String changes = "bound(0, 1); ill(0, false); marcher(1); counts(0, 1); solo(0, 0, false);"
        + "scrub(0); line(0, 2, 0, 0, 1, 0); picture(1); rule(0, 0); rule(1, 2); drums(40, 40)";
    Call.all(room, changes);
    on(room, "back()", 1, "many(0)", 1, "many(2)", 1, "many(3)", 1, "many(4)", 1, "dot(0, 0, 0)", 8,
        "dot(0, 0, 1)", 9, "bound(0, 3)", 3, "counts(0, 7)", 7, "rule(0, 2)", 2, "rule(1, 1)", 1,
        "set(0, 0)", ILL, "ill(0, false)", 1, "late(0, 0)", 14);

    says("`int back()`: It becomes what was kept latest (which stays): 1. NONE: nothing is kept.");
    Call.all(room, changes.replace("ill(0, false);", ""));
    on(room, "back()", 1, "many(0)", 1, "many(3)", 1, "ill(0, true)", 0, "marcher(4)", 1, "keep()", 1,
        "marcher(4)", 2, "back()", 1, "many(0)", 2, "back()", 1, "many(0)", 2);
    run("back()", NONE, "marcher(1)", 0, "back()", NONE, "many(0)", 1, "keep()", 1, "back()", 1);
    run("marcher(1)", 0, "picture(1)", 0, "line(0, 2, 0, 0, 1, 0)", 2, "keep()", 1,
        "solo(0, 1, true)", 1, "set(0, 0)", 1, "back()", 1, "set(0, 0)", 0, "picture(2)", 1,
        "line(1, 1, 1, 1, 0, 0)", 1, "back()", 1, "picture(3)", 1, "scrub(1)", NONE,
        "set(1, 0)", NONE);
  }

  /** These leave free, and ask for nothing. */
  private void notPromised() {
    says("How the state is held inside the object is free, as are the speed of each call, the text "
        + "of toString and the behaviour of equals and hashCode.");
    says("Use of one object from several threads at once is not promised to be safe.");
    says("Nothing is promised beyond the answers and state changes described above, and nothing "
        + "about an object after its 512th call.");
  }
}
