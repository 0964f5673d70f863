import java.util.ArrayList;
import java.util.List;

/** The bounds that the Terms' SPOTS and SHEETS and promises 36 to 42 name, from both sides. */
public final class SheetEdgesTest {
  private static final int OTHER = -9;

  public static void main(String[] args) {
    promise36Hold();
    promise37As();
    promise38Bounds();
    promise38Zeros();
    promise39Bounds();
    promise39Signs();
    promise40Bounds();
    promise40AsTheyAllWere();
    promise40Bits();
    promise41Load();
    promise42Judge();
    Check.end();
  }

  private static void promise36Hold() {
    List<String> two = List.of("thing(0)", "thing(1)");
    Rows.after(two, "hold", "hold(-1, 0) = BEYOND", "hold(0, 0) = 1", "hold(9, 0) = 1", "hold(10, 0) = BEYOND",
        "hold(0, -2) = BEYOND", "hold(0, -1) = 1", "hold(0, 1) = 1", "hold(0, 2) = BEYOND", "as(0, 0) = 1",
        "hold(10, -1) = BEYOND", "hold(-1, -1) = BEYOND", "count(7) = 2", "hold(9, -1) = 1", "hold(9, -1) = 1",
        "count(7) = 1", "hold(1, 1) = 1", "count(7) = 2", "as(1, 0) = 1", "as(9, 0) = MISSING");
    FedHen x = Rows.make(two);
    for (int spot = 0; spot <= 9; spot++) {
      Rows.due("all spots", x, "as(" + spot + ", 0) = MISSING", "hold(" + spot + ", " + spot % 2 + ") = 1",
          "as(" + spot + ", 0) = " + spot % 2, "count(7) = " + (spot + 1));
    }
    Rows.after(Hens.and(two, "hold(0, 1)", "fed(1)"), "one that is in, or laid", "as(0, 1) = 1", "days(1) = 5",
        "as(0, 1) = 1", "hold(1, 1) = 1", "home(1) = 5", "as(1, 5) = KIND");
  }

  private static void promise37As() {
    Rows.after(List.of("thing(4)", "hold(0, 0)", "hold(9, 0)"), "as", "as(-1, 0) = BEYOND", "as(10, 0) = BEYOND",
        "as(0, -1) = BEYOND", "as(0, 7) = BEYOND", "as(1, 7) = BEYOND", "as(10, 7) = BEYOND", "as(1, 6) = MISSING",
        "as(1, 0) = MISSING", "as(0, 0) = 0", "as(0, 1) = KIND", "as(0, 2) = 0", "as(0, 3) = 0", "as(0, 4) = 0",
        "as(0, 5) = KIND", "as(0, 6) = KIND", "as(9, 4) = 0", "change(0, 0, 3) = 4", "as(0, 4) = KIND", "as(0, 3) = 0",
        "as(0, 2) = 0", "change(0, 0, 2) = 3", "as(0, 3) = KIND", "as(0, 2) = 0", "change(0, 0, 5) = 2", "as(0, 5) = 0",
        "as(0, 1) = 0", "as(0, 0) = 0", "as(0, 6) = KIND", "change(0, 0, 1) = 5", "as(0, 5) = KIND", "as(0, 1) = 0",
        "change(0, 0, 6) = 1", "as(0, 6) = 0", "as(0, 0) = 0", "as(0, 1) = KIND", "change(0, 0, 0) = 6", "as(0, 0) = 0",
        "as(0, 6) = KIND", "as(0, 1) = KIND");
  }

  private static void promise38Bounds() {
    for (int bits : new int[] {8, 16, 32}) {
      Rows.after(List.of(), "sheet of " + bits, "sheet(0, " + bits + ", 0) = 0", "write(0, 0, 1) = BEYOND",
          "load(0) = 0", "sheet(0, " + bits + ", 1) = 1", "write(0, 0, 1) = 1", "write(0, 1, 1) = BEYOND",
          "sheet(0, " + bits + ", 40) = 40", "write(0, 39, 1) = 1", "write(0, 40, 1) = BEYOND",
          "sheet(0, " + bits + ", 41) = BEYOND", "write(0, 39, 1) = 1", "sheet(0, " + bits + ", -1) = SIZE",
          "write(0, 39, 1) = 1", "sheet(0, " + bits + ", MIN) = SIZE", "sheet(0, " + bits + ", MAX) = BEYOND",
          "sheet(3, " + bits + ", 2) = 2", "sheet(4, " + bits + ", 2) = BEYOND", "sheet(-1, " + bits + ", 2) = BEYOND",
          "sheet(4, " + bits + ", -1) = BEYOND", "copy(0, 0, 3, 0, 2) = 2");
    }
    Rows.after(List.of("sheet(0, 8, 3)"), "sheet of 0 bits", "sheet(0, 0, -1) = SIZE", "sheet(0, 0, 41) = BEYOND",
        "sheet(0, 0, MIN) = SIZE", "sheet(0, 0, MAX) = BEYOND", "write(0, 2, 1) = 1", "sheet(0, 0, 0) = 0",
        "write(0, 0, 1) = MISSING", "sheet(0, 8, 3) = 3", "sheet(0, 0, 40) = 0", "write(0, 2, 1) = MISSING",
        "sheet(0, 0, 1) = 0", "load(0) = MISSING");
    FedHen x = new FedHen();
    for (int bits : new int[] {-32, -16, -8, -1, 1, 2, 4, 7, 9, 15, 17, 24, 31, 33, 64, 128, Integer.MIN_VALUE,
        Integer.MAX_VALUE}) {
      Rows.due("other bits", x, "sheet(0, " + bits + ", 3) = BEYOND", "sheet(0, " + bits + ", -1) = BEYOND",
          "sheet(0, " + bits + ", 41) = BEYOND", "load(0) = MISSING");
    }
  }

  private static void promise38Zeros() {
    Rows.after(List.of("thing(0)", "thing(0)", "sheet(0, 8, 2)", "write(0, 0, 5)", "write(0, 1, 6)"), "all 0 anew",
        "load(0) = 2", "of(1, 2) = 6", "sheet(0, 8, 1) = 1", "sheet(0, 32, 2) = 2", "load(0) = 2", "of(0, 2) = 0",
        "of(1, 2) = 0", "write(0, 1, 7) = 1", "sheet(0, 0, 0) = 0", "sheet(0, 8, 2) = 2", "load(0) = 2",
        "of(1, 2) = 0");
  }

  private static void promise39Bounds() {
    Rows.after(List.of("sheet(0, 8, 3)", "sheet(2, 16, 0)"), "write", "write(-1, 0, 0) = BEYOND",
        "write(4, 0, 0) = BEYOND", "write(1, 0, 0) = MISSING", "write(1, -1, 0) = MISSING", "write(3, 40, 0) = MISSING",
        "write(0, -1, 0) = BEYOND", "write(0, 0, MIN) = 1", "write(0, 2, MAX) = 1", "write(0, 3, 0) = BEYOND",
        "write(0, MIN, 0) = BEYOND", "write(0, MAX, 0) = BEYOND", "write(MIN, 0, 0) = BEYOND",
        "write(MAX, 0, 0) = BEYOND", "write(2, 0, 0) = BEYOND", "status(0) = 9", "status(5) = 3");
  }

  /** What number 0 is behind a write of v: 0 to 99 by load(), -1 to 104 by judge(), or another one. */
  private static void written(int bits, int v, int due) {
    FedHen x = Rows.make(List.of("rule(1, 0)", "thing(4)", "thing(1)", "sheet(0, " + bits + ", 1)"));
    x.write(0, 0, v);
    int got = OTHER;
    if (x.judge(0) == 0) {
      got = -1;
    } else if (x.load(0) == 1) {
      got = x.of(0, 2);
    } else {
      Rows.with(x, List.of("change(0, 2, 99)", "fed(0)", "days(4)"));
      for (int worth = 100; worth <= 104; worth++) {
        x.change(0, 2, worth - 5);
        got = x.judge(0) == 0 ? worth : got;
      }
    }
    Check.due(v + " in " + bits + " bits", got, due);
  }

  private static void promise39Signs() {
    for (int bits : new int[] {8, 16, 32}) {
      for (int v : new int[] {0, 1, 50, 98, 99, 100, 104, -1}) {
        written(bits, v, v);
      }
      for (int v : new int[] {-2, -99, 105, 127}) {
        written(bits, v, OTHER);
      }
    }
    int[][] due = {{128, OTHER, OTHER, OTHER}, {-128, OTHER, OTHER, OTHER}, {-129, OTHER, OTHER, OTHER},
        {254, OTHER, OTHER, OTHER}, {255, -1, OTHER, OTHER}, {256, 0, OTHER, OTHER}, {257, 1, OTHER, OTHER},
        {355, 99, OTHER, OTHER}, {360, 104, OTHER, OTHER}, {361, OTHER, OTHER, OTHER}, {-157, 99, OTHER, OTHER},
        {-256, 0, OTHER, OTHER}, {-257, -1, OTHER, OTHER}, {32767, -1, OTHER, OTHER}, {32768, 0, OTHER, OTHER},
        {-32768, 0, OTHER, OTHER}, {-32769, -1, OTHER, OTHER}, {65535, -1, -1, OTHER}, {65536, 0, 0, OTHER},
        {65635, 99, 99, OTHER}, {65640, 104, 104, OTHER}, {65791, -1, OTHER, OTHER}, {-65536, 0, 0, OTHER},
        {-65437, 99, 99, OTHER}, {-65537, -1, -1, OTHER}, {1 << 24, 0, 0, OTHER}, {Integer.MIN_VALUE, 0, 0, OTHER},
        {Integer.MAX_VALUE, -1, -1, OTHER}, {Integer.MIN_VALUE + 7, 7, 7, OTHER}};
    for (int[] d : due) {
      written(8, d[0], d[1]);
      written(16, d[0], d[2]);
      written(32, d[0], d[3]);
    }
  }

  private static void promise40Bounds() {
    List<String> sheets = List.of("sheet(0, 16, 4)", "sheet(1, 16, 3)", "sheet(2, 8, 4)", "sheet(3, 32, 4)");
    Rows.after(sheets, "copy", "copy(0, 0, 1, 0, 3) = 3", "copy(0, 0, 1, 0, 4) = BEYOND", "copy(0, 1, 1, 0, 3) = 3",
        "copy(0, 2, 1, 0, 3) = BEYOND", "copy(0, 0, 1, 1, 2) = 2", "copy(0, 0, 1, 1, 3) = BEYOND",
        "copy(0, 3, 1, 2, 1) = 1", "copy(0, 4, 1, 2, 1) = BEYOND", "copy(0, 3, 1, 3, 1) = BEYOND",
        "copy(0, 4, 1, 3, 0) = 0", "copy(0, 5, 1, 0, 0) = BEYOND", "copy(0, 0, 1, 4, 0) = BEYOND",
        "copy(0, -1, 1, 0, 0) = BEYOND", "copy(0, 0, 1, -1, 0) = BEYOND", "copy(0, 0, 1, 0, -1) = BEYOND",
        "copy(0, -1, 1, -1, -1) = BEYOND", "copy(0, 0, 1, 0, 0) = 0", "copy(0, 0, 0, 0, 4) = 4",
        "copy(1, 0, 0, 1, 3) = 3", "copy(1, 0, 0, 2, 3) = BEYOND", "copy(0, MAX, 1, 0, 1) = BEYOND",
        "copy(0, 1, 1, 0, MAX) = BEYOND", "copy(0, MAX, 1, MAX, MAX) = BEYOND", "copy(0, MIN, 1, 0, 1) = BEYOND",
        "copy(0, 0, 1, MIN, 1) = BEYOND", "copy(0, 0, 1, 0, MIN) = BEYOND", "copy(0, 0, 1, MAX, 1) = BEYOND",
        "copy(0, MAX, 1, 0, MIN) = BEYOND", "copy(0, 0, 1, 0, 3) = 3");
    Rows.after(Hens.and(sheets, "sheet(1, 0, 0)"), "copy, MISSING", "copy(0, 0, 1, 0, 1) = MISSING",
        "copy(1, 0, 0, 0, 1) = MISSING", "copy(1, 0, 1, 0, 0) = MISSING", "copy(0, -1, 1, 0, 9) = MISSING",
        "copy(1, 0, 4, 0, 1) = BEYOND", "copy(-1, 0, 1, 0, 1) = BEYOND", "copy(MIN, 0, 0, 0, 0) = BEYOND",
        "copy(0, 0, MAX, 0, 0) = BEYOND", "copy(4, 0, 0, 0, 0) = BEYOND", "copy(0, 0, -1, 0, 0) = BEYOND");
  }

  private static void promise40Bits() {
    List<String> sheets = List.of("sheet(0, 8, 4)", "sheet(1, 16, 4)", "sheet(2, 32, 4)", "sheet(3, 8, 0)");
    Rows.after(sheets, "copy of other bits", "copy(0, 0, 1, 0, 1) = KIND", "copy(1, 0, 0, 0, 1) = KIND",
        "copy(0, 0, 2, 0, 0) = KIND", "copy(1, 0, 2, 0, 4) = KIND", "copy(2, 0, 1, -1, 9) = KIND",
        "copy(1, 0, 3, 0, 0) = KIND", "copy(0, 0, 3, 0, 0) = 0", "copy(0, 4, 3, 0, 0) = 0",
        "copy(0, 0, 3, 0, 1) = BEYOND", "copy(3, 0, 0, 4, 0) = 0", "copy(3, 1, 0, 0, 0) = BEYOND",
        "sheet(1, 0, 0) = 0", "copy(0, 0, 1, 0, 0) = MISSING");
  }

  /** Of the numbers 11 to 15: what comes of copies within one SHEET, by load(). */
  private static void promise40AsTheyAllWere() {
    int[][] ways = {{0, 1, 4}, {1, 0, 4}, {0, 2, 3}, {2, 0, 3}, {0, 0, 5}, {3, 1, 2}, {0, 4, 1}, {5, 5, 0}, {0, 0, 0}};
    for (int[] way : ways) {
      int[] due = {11, 12, 13, 14, 15};
      FedHen x = new FedHen();
      Rows.with(x, List.of("thing(0)", "thing(0)", "thing(0)", "thing(0)", "thing(0)", "sheet(1, 32, 5)"));
      for (int i = 0; i < 5; i++) {
        x.write(1, i, due[i]);
      }
      System.arraycopy(new int[] {11, 12, 13, 14, 15}, way[0], due, way[1], way[2]);
      Rows.due("copy within", x, "copy(1, " + way[0] + ", 1, " + way[1] + ", " + way[2] + ") = " + way[2],
          "load(1) = 5");
      for (int t = 0; t < 5; t++) {
        Rows.due("copy within " + way[0] + " to " + way[1], x, "of(" + t + ", 2) = " + due[t]);
      }
    }
  }

  private static void promise41Load() {
    Rows.after(List.of("sheet(0, 8, 40)"), "load without things", "load(0) = 0", "load(-1) = BEYOND",
        "load(4) = BEYOND", "load(MIN) = BEYOND", "load(MAX) = BEYOND", "load(1) = MISSING", "load(3) = MISSING");
    List<String> ten = new ArrayList<>();
    for (int t = 0; t < 10; t++) {
      ten.add("thing(0)");
    }
    Rows.after(Hens.and(ten, "sheet(0, 8, 40)"), "load of 40 numbers", "load(0) = 10", "count(4) = 0",
        "write(0, 9, 99) = 1", "load(0) = 10", "of(9, 2) = 99", "write(0, 9, 100) = 1", "load(0) = 9", "of(9, 2) = 99",
        "write(0, 10, -1) = 1", "write(0, 9, 0) = 1", "load(0) = 10", "of(9, 2) = 0");
    Rows.after(Hens.and(ten, "sheet(0, 8, 9)"), "load of 9 numbers", "load(0) = 9", "count(4) = 10", "of(9, 2) = 10");
    Rows.after(Hens.and(ten, "sheet(0, 32, 2)"), "load ends", "write(0, 0, -1) = 1", "load(0) = 0", "of(0, 2) = 10",
        "of(1, 2) = 10", "write(0, 0, 0) = 1", "write(0, 1, 100) = 1", "load(0) = 1", "of(0, 2) = 0", "of(1, 2) = 10",
        "write(0, 1, MAX) = 1", "load(0) = 1", "write(0, 1, MIN) = 1", "load(0) = 1", "write(0, 1, 99) = 1",
        "load(0) = 2", "of(1, 2) = 99", "sheet(0, 32, 0) = 0", "load(0) = 0", "of(0, 2) = 0");
    Rows.after(List.of("thing(1)", "thing(0)", "fed(0)", "days(1)", "fed(1)", "sheet(0, 8, 2)"),
        "laid ones and those in", "load(0) = 2", "of(0, 2) = 0", "of(1, 2) = 0", "worth(1) = 0", "home(0) = 5");
  }

  private static void promise42Judge() {
    List<String> calls = List.of("rule(1, 0)", "thing(1)", "thing(1)", "fed(0)", "fed(1)", "sheet(0, 8, 4)",
        "sheet(1, 8, 0)");
    Rows.after(calls, "judge", "judge(-1) = BEYOND", "judge(4) = BEYOND", "judge(MIN) = BEYOND", "judge(MAX) = BEYOND",
        "judge(2) = MISSING", "judge(3) = MISSING", "judge(1) = 0", "judge(0) = 1", "write(0, 0, 5) = 1",
        "judge(0) = 2", "write(0, 1, 5) = 1", "judge(0) = 3", "write(0, 2, -1) = 1", "judge(0) = 4",
        "write(0, 3, -1) = 1", "judge(0) = 0", "write(0, 0, 6) = 1", "judge(0) = 1", "write(0, 0, 4) = 1",
        "judge(0) = 1", "write(0, 0, -1) = 1", "judge(0) = 1", "now(0) = 0", "now(1) = 2");
    Rows.after(Hens.and(calls, "sheet(0, 8, 2)", "change(0, 2, 1)", "change(1, 2, 0)"), "an egg worth 0 isn't none",
        "judge(0) = 0", "write(0, 1, -1) = 1", "judge(0) = 2", "write(0, 1, 0) = 1", "judge(0) = 0",
        "write(0, 0, -1) = 1", "judge(0) = 1");
    FedHen x = Rows.make(Hens.and(calls, "sheet(0, 32, 40)", "days(2)"));
    for (int i = 0; i < 40; i++) {
      Rows.due("judge of 40", x, "judge(0) = " + (i + 1), "write(0, " + i + ", -1) = 1");
    }
    Rows.due("judge of 40", x, "judge(0) = 0");
    Rows.after(Rows.at(9999, "sheet(0, 8, 1)"), "on the last day", "judge(4) = BEYOND", "judge(1) = MISSING",
        "judge(0) = STATE", "sheet(0, 8, 0) = 0", "judge(0) = 0");
  }
}
