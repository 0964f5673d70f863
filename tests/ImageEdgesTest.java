import java.util.ArrayList;
import java.util.List;

/** The bounds that promises 43 to 47 name: nothing kept, kept anew, torn; counts and STATUS from both sides. */
public final class ImageEdgesTest {
  public static void main(String[] args) {
    promise43And44Nothing();
    promise43KeptAnew();
    promise43EachPartIsKept();
    promise44HollowEggs();
    promise44TapeAndSheetsStay();
    promise44StatusStays();
    promise44FullHenAndEmptyOne();
    promise45Tear();
    promise46Count();
    promise47EachFinding();
    promise47Bounds();
    Check.end();
  }

  private static void promise43And44Nothing() {
    Rows.after(List.of(), "nothing is kept", "undo() = NONE", "undo() = NONE", "status(3) = 2", "tear() = 0",
        "image() = 1", "image() = 1", "undo() = 0", "undo() = 0", "tear() = 1", "tear() = 0", "undo() = NONE",
        "image() = 1", "undo() = 0", "status(3) = 3");
  }

  private static void promise43KeptAnew() {
    Rows.after(List.of("days(3)", "image()", "days(4)", "image()", "days(5)"), "the latest one", "undo() = 7",
        "now(0) = 7", "days(60) = 0", "undo() = 7", "tear() = 1", "undo() = NONE", "now(0) = 7");
  }

  private static void promise44HollowEggs() {
    Rows.after(List.of("rule(1, 9)", "thing(1)", "thing(1)", "fed(0)", "days(1)", "image()", "fed(1)", "days(1)"),
        "hollow ones ever", "now(3) = 2", "now(4) = 2", "undo() = 1", "now(3) = 1", "now(4) = 1", "egg(0, 0) = 0",
        "egg(1, 0) = NONE", "laid(0) = 1", "rule(1, 0) = 9", "fed(1) = 1", "days(1) = 5", "now(3) = 2", "now(4) = 1",
        "undo() = 1", "now(4) = 1", "tear() = 1");
  }

  /** Each call changes one part of what is kept; the undo takes it back, and that alone. */
  private static void promise43EachPartIsKept() {
    List<String> setup = List.of("rule(1, 0)", "thing(4)", "thing(1)", "thing(0)", "thing(1)", "fed(1)", "days(1)",
        "fed(0)", "fed(2)", "hold(2, 0)", "seed(9)", "image()");
    String[] changes = {"thing(3)", "change(0, 0, 6)", "change(1, 1, 9)", "change(2, 2, 77)", "change(3, 3, 1)",
        "rule(0, 33)", "rule(1, 9)", "fed(3)", "home(1)", "days(1)", "days(5)", "days(60)", "lent(12)", "seed(-5)",
        "hold(2, -1)", "hold(9, 3)", "tape corn;room 3;hunger 1", "undo()"};
    for (String change : changes) {
      FedHen x = Rows.make(setup);
      FedHen twin = Rows.make(setup);
      Rows.ask(x, change);
      if (change.startsWith("tape")) {
        Check.due("text", x.text(), 3);
      }
      Check.due("undo behind " + change, x.undo(), 1);
      Refused.same("undo behind " + change, Told.statusOf(x), Told.statusOf(twin));
      Refused.same("undo behind " + change, Told.of(x), Told.of(twin));
    }
  }

  private static void promise44TapeAndSheetsStay() {
    Rows.after(List.of("thing(0)", "thing(0)", "tape room 3", "sheet(0, 8, 1)", "write(0, 0, 1)", "image()", "wipe()",
        "tape room 30", "write(0, 0, 2)", "sheet(1, 8, 2)"), "tape and sheets stay", "undo() = 0", "count(5) = 7",
        "text() = 1", "now(5) = 30", "load(0) = 1", "of(0, 2) = 2", "load(1) = 2", "sheet(0, 0, 0) = 0", "undo() = 0",
        "of(0, 2) = 10", "now(5) = 12", "load(0) = MISSING", "count(5) = 0", "wipe() = 0");
  }

  private static void promise44StatusStays() {
    Rows.after(List.of("image()"), "status stays", "thing(-1) = BEYOND", "crop(0) = NONE", "undo() = 0",
        "status(-1) = 2", "status(0) = 1", "status(3) = 1", "image() = 1", "lent(1) = STATE", "undo() = 0",
        "status(4) = 1", "status(-1) = 3", "tear() = 1", "undo() = NONE", "status(3) = 2", "status(-1) = 4");
  }

  private static void promise44FullHenAndEmptyOne() {
    List<String> empty = new ArrayList<>(List.of("image()", "rule(0, 40)"));
    for (int t = 0; t < 10; t++) {
      empty.add("thing(0)");
      empty.add("hold(" + t + ", " + t + ")");
    }
    for (int t = 0; t < 8; t++) {
      empty.add("fed(" + t + ")");
    }
    Rows.after(Hens.and(empty, "days(60)"), "the empty one again", "now(3) = 8", "undo() = 0", "count(1) = 0",
        "count(2) = 0", "count(3) = 0", "count(4) = 0", "count(7) = 0", "now(2) = 0", "now(5) = 12", "crop(0) = NONE",
        "egg(0, 0) = NONE", "of(0, 0) = BEYOND", "as(0, 0) = MISSING", "laid(0) = 0", "thing(6) = 0", "of(0, 4) = 0",
        "of(0, 5) = 0", "of(0, 6) = 0", "of(0, 2) = 10", "fed(0) = 1", "crop(0) = 0", "crop(1) = NONE");
    Rows.after(Hens.and(empty, "days(2)", "image()", "days(60)"), "the full one again", "now(1) = 0", "undo() = 2",
        "count(1) = 10", "count(2) = 8", "crop(7) = 7", "of(7, 5) = 2", "of(7, 6) = 2", "of(6, 6) = 4",
        "egg(0, 0) = NONE", "fed(8) = FULL", "thing(0) = FULL", "as(9, 0) = 9", "days(1) = 7", "egg(0, 2) = 2");
  }

  private static void promise45Tear() {
    Rows.after(List.of("thing(0)", "image()", "thing(0)"), "tear changes nothing else", "tear() = 1", "count(1) = 2",
        "undo() = NONE", "count(1) = 2", "tear() = 0", "status(-1) = 1");
  }

  private static void promise46Count() {
    Rows.after(List.of(), "count of nothing", "count(-1) = BEYOND", "count(0) = 0", "count(1) = 0", "count(2) = 0",
        "count(3) = 0", "count(4) = 0", "count(5) = 0", "count(6) = 1", "count(7) = 0", "count(8) = BEYOND",
        "count(MIN) = BEYOND", "count(MAX) = BEYOND", "status(0) = 4");
    List<String> full = new ArrayList<>(List.of("rule(0, 40)", "tape " + "x".repeat(120), "seed(MAX)"));
    for (int t = 0; t < 10; t++) {
      full.add("thing(0)");
      full.add("change(" + t + ", 2, 99)");
      full.add("hold(" + t + ", " + t + ")");
    }
    for (int t = 0; t < 8; t++) {
      full.add("fed(" + t + ")");
    }
    Rows.after(full, "count of all", "count(1) = 10", "count(2) = 8", "count(4) = 990", "count(5) = 120",
        "count(6) = MAX", "count(7) = 10", "days(60) = 708", "count(0) = 60", "count(2) = 0", "count(3) = 8",
        "count(4) = 990");
  }

  private static void promise47EachFinding() {
    List<String> setup = new ArrayList<>();
    for (int t = 0; t < 10; t++) {
      setup.add("thing(0)");
    }
    setup.add("hold(0, 0)");
    String[] refused = {"thing(7) = BEYOND", "thing(0) = FULL", "as(0, 1) = KIND", "crop(0) = NONE", "home(0) = STATE",
        "as(1, 0) = MISSING", "sheet(0, 8, -1) = SIZE"};
    FedHen x = Rows.make(setup);
    for (int f = 0; f < refused.length; f++) {
      for (int times = 1; times <= f + 1; times++) {
        Rows.due("each finding", x, "status(" + f + ") = " + (times - 1), refused[f], "status(" + f + ") = " + times);
      }
    }
    Rows.due("all findings", x, "status(-1) = 28", "status(0) = 1", "status(1) = 2", "status(2) = 3", "status(3) = 4",
        "status(4) = 5", "status(5) = 6", "status(6) = 7");
  }

  /** A wrong one is counted itself, but only for later calls. */
  private static void promise47Bounds() {
    Rows.after(List.of(), "status", "status(-1) = 0", "status(0) = 0", "status(6) = 0", "status(7) = BEYOND",
        "status(0) = 1", "status(-2) = BEYOND", "status(0) = 2", "status(MIN) = BEYOND", "status(MAX) = BEYOND",
        "status(-1) = 4", "status(1) = 0", "status(2) = 0", "status(3) = 0", "status(4) = 0", "status(5) = 0",
        "status(6) = 0");
  }
}
