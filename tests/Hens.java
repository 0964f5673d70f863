import java.util.ArrayList;
import java.util.List;

/** Hens that some tests begin with, as the calls by which a new one becomes so. */
final class Hens {
  private Hens() {}

  static List<String> and(List<String> setup, String... more) {
    List<String> calls = new ArrayList<>(setup);
    calls.addAll(List.of(more));
    return calls;
  }

  /** THINGS of these kinds, all as at first else, and HUNGER 0. */
  static List<String> sated(int... kinds) {
    List<String> calls = new ArrayList<>(List.of("rule(1, 0)"));
    for (int kind : kinds) {
      calls.add("thing(" + kind + ")");
    }
    return calls;
  }

  /** On DAY 3: THINGS 1 and 0 IN, 2 LAID, 3 and 4 OUT; SHEET 3 is MISSING, 2 has no numbers. */
  static List<String> busy() {
    return List.of("thing(3)", "thing(0)", "thing(1)", "thing(6)", "rule(0, 10)", "rule(1, 1)", "seed(77)", "fed(2)",
        "days(1)", "fed(1)", "fed(0)", "days(1)", "hold(0, 3)", "hold(9, 2)", "sheet(0, 8, 3)", "write(0, 0, 50)",
        "write(0, 1, 60)", "write(0, 2, 70)", "sheet(1, 16, 2)", "write(1, 1, 9)", "sheet(2, 8, 0)", "image()",
        "change(3, 2, 40)", "change(3, 3, 1)", "days(1)", "thing(4)", "tape room 7");
  }

  /** The same without room for any more, and nothing kept. */
  static List<String> tight() {
    return and(busy(), "rule(0, 4)", "tear()");
  }

  /** Ten THINGS, eight of them IN, ROOM used up, all SPOTS held, THE TAPE full, SHEETS of 40 numbers. */
  static List<String> full() {
    List<String> calls = new ArrayList<>();
    int[] kinds = {4, 0, 1, 2, 3, 5, 6, 0, 1, 2};
    for (int t = 0; t < 10; t++) {
      calls.add("thing(" + kinds[t] + ")");
      calls.add("hold(" + t + ", " + t + ")");
    }
    calls.add("rule(0, 16)");
    for (int t = 0; t < 8; t++) {
      calls.add("fed(" + t + ")");
    }
    calls.addAll(List.of("tape " + "room 40;".repeat(15), "sheet(0, 8, 40)", "sheet(1, 8, 40)", "sheet(2, 16, 40)",
        "sheet(3, 32, 40)", "image()", "change(8, 3, 1)", "change(9, 3, 1)"));
    return calls;
  }

  /** Twelve EGGS and more, of three THINGS; the EGGS of the first one are too old. */
  static List<String> eggs() {
    List<String> calls = new ArrayList<>(List.of("thing(0)", "thing(1)", "thing(1)", "fed(0)", "days(3)"));
    for (int i = 0; i < 13; i++) {
      calls.add("fed(" + (1 + i % 2) + ")");
      calls.add("days(1)");
      calls.add("home(" + (1 + i % 2) + ")");
    }
    return calls;
  }

  /** At a DAY: THING 0 IN, 1 and 2 OUT, 3 LAID (on a DAY ahead). */
  static List<String> late(int day) {
    List<String> calls = new ArrayList<>(List.of("thing(4)", "thing(1)", "thing(0)", "thing(1)", "fed(3)"));
    calls.addAll(Rows.at(day, "fed(0)", "sheet(0, 8, 1)", "sheet(1, 8, 9)", "sheet(2, 8, 10)", "sheet(3, 32, 40)",
        "image()", "change(2, 3, 1)"));
    return calls;
  }
}
