import java.util.ArrayList;
import java.util.List;

/** What can be asked of a hen (or of a Model), as rows; of() uses it up, and takes some 360 calls at most. */
final class Told {
  private Told() {}

  static List<String> statusOf(Object x) {
    List<String> all = new ArrayList<>();
    for (int which = -1; which <= 6; which++) {
      add(all, x, "status(" + which + ")");
    }
    return all;
  }

  /** All but STATUS. */
  static List<String> of(Object x) {
    List<String> all = new ArrayList<>();
    addHen(all, x);
    addSheets(all, x);
    add(all, x, "text()");
    add(all, x, "now(5)");
    add(all, x, "undo()");
    addHen(all, x);
    return all;
  }

  private static void add(List<String> all, Object x, String call) {
    all.add(call + " = " + Rows.ask(x, call));
  }

  private static void addHen(List<String> all, Object x) {
    for (int what = 0; what <= 7; what++) {
      add(all, x, "count(" + what + ")");
    }
    for (int what = 0; what <= 6; what++) {
      add(all, x, "now(" + what + ")");
    }
    int things = Rows.ask(x, "count(1)");
    for (int t = 0; t < things; t++) {
      for (int what = 0; what <= 6; what++) {
        add(all, x, "of(" + t + ", " + what + ")");
      }
    }
    int in = Rows.ask(x, "now(1)");
    for (int i = 0; i < in; i++) {
      add(all, x, "crop(" + i + ")");
    }
    int eggs = Math.min(12, Rows.ask(x, "now(3)"));
    for (int i = 0; i < eggs; i++) {
      for (int what = 0; what <= 2; what++) {
        add(all, x, "egg(" + i + ", " + what + ")");
      }
    }
    for (int spot = 0; spot <= 9; spot++) {
      add(all, x, "as(" + spot + ", 0)");
    }
  }

  /** How long the SHEETS are, of how many bits, and what of their numbers may be a WORTH. */
  private static void addSheets(List<String> all, Object x) {
    int things = Rows.ask(x, "count(1)");
    for (int s = 0; s <= 3; s++) {
      for (int n : new int[] {1, 2, 3, 4, 40}) {
        add(all, x, "copy(" + s + ", 0, " + s + ", 0, " + n + ")");
      }
      for (int t = s + 1; t <= 3; t++) {
        add(all, x, "copy(" + s + ", 0, " + t + ", 0, 0)");
      }
      add(all, x, "load(" + s + ")");
      for (int t = 0; t < things; t++) {
        add(all, x, "of(" + t + ", 2)");
      }
    }
  }
}
