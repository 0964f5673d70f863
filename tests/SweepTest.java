import java.util.ArrayList;
import java.util.Arrays;
import java.util.List;
import java.util.Map;

/**
 * Every call with every value at a bound, and every two (or more) of them together, on hens that are empty, busy, full
 * or late: each answer against the Model's, and what is so behind them.
 */
public final class SweepTest {
  private static final int TOGETHER = 60;
  private static final int MIN = Integer.MIN_VALUE;
  private static final int MAX = Integer.MAX_VALUE;

  /** A call with the sorts of its parameters; behind a ! each goes on a hen of its own. */
  private static final String[] CALLS = {"!thing kind", "of thing what", "change thing few value", "rule few value",
      "!fed thing", "!home thing", "crop place", "egg place few", "!days days", "now what", "ahead days few",
      "when thing", "worth thing", "spoils", "plan set days", "best set days", "ith set days few", "next days",
      "foes days", "kindFor thing days", "rid days", "turns turn days", "first turn days", "share few days",
      "fits value days", "may value days", "laid few", "room set", "starves days", "!lent days", "!seed value",
      "!feed value few", "!wipe", "!text", "hold place thing", "as place kind", "sheet few bits count",
      "write few count value", "copy few from few from from", "load few", "judge few", "!image", "!undo", "!tear",
      "count what", "status what"};

  private static final Map<String, int[]> VALUES = Map.ofEntries(
      Map.entry("kind", new int[] {MIN, -1, 0, 1, 3, 5, 6, 7, MAX}),
      Map.entry("thing", new int[] {MIN, -2, -1, 0, 1, 2, 3, 4, 5, 8, 9, 10, MAX}),
      Map.entry("what", new int[] {MIN, -2, -1, 0, 1, 2, 3, 4, 5, 6, 7, 8, 9, 10, MAX}),
      Map.entry("few", new int[] {MIN, -1, 0, 1, 2, 3, 4, 5, MAX}),
      Map.entry("value", new int[] {MIN, -1, 0, 1, 2, 6, 7, 9, 10, 40, 41, 99, 100, 104, 105, 255, 65536, MAX}),
      Map.entry("place", new int[] {MIN, -1, 0, 1, 2, 7, 8, 9, 10, 11, 12, 13, MAX}),
      Map.entry("days", new int[] {MIN, -1, 0, 1, 2, 3, 4, 5, 9, 10, 12, 13, 59, 60, 61, MAX}),
      Map.entry("turn", new int[] {MIN, -1, 0, 1, 2, 3, 4, 5, MAX}),
      Map.entry("bits", new int[] {MIN, -8, 0, 1, 8, 16, 32, 64, MAX}),
      Map.entry("count", new int[] {MIN, -1, 0, 1, 2, 3, 39, 40, 41, MAX}),
      Map.entry("from", new int[] {MIN, -1, 0, 1, 2, 3, 40, MAX}),
      Map.entry("set", new int[] {MIN, -1, 0, 1, 2, 6, 8, 16, 24, 31, 32, 62, 63, 512, 768, 1023, 1024, 1 << 31 | 1,
          MAX}));

  public static void main(String[] args) {
    List<String> out = new ArrayList<>(List.of("rule(1, 3)"));
    for (int t = 0; t < 7; t++) {
      out.addAll(List.of("thing(" + t + ")", "change(" + t + ", 3, " + t % 2 + ")",
          "change(" + t + ", 2, " + (9 + 7 * t) + ")"));
    }
    sweep("empty", List.of());
    sweep("busy", Hens.busy());
    sweep("tight", Hens.tight());
    sweep("full", Hens.full());
    sweep("eggs", Hens.eggs());
    sweep("out", out);
    for (int day : new int[] {9939, 9990, 9998, 9999}) {
      sweep("day " + day, Hens.late(day));
    }
    Check.end();
  }

  private static void sweep(String where, List<String> setup) {
    for (String call : CALLS) {
      sweep(where, setup, call);
    }
  }

  private static void sweep(String where, List<String> setup, String call) {
    boolean alone = call.startsWith("!");
    String[] parts = (alone ? call.substring(1) : call).split(" ");
    List<int[]> all = List.of(new int[0]);
    for (int p = 1; p < parts.length; p++) {
      all = longer(all, VALUES.get(parts[p]));
    }
    // The copies are too many; each 7th of them is enough (no number of values is a multiple of 7).
    int step = all.size() > 10000 ? 7 : 1;
    Pair pair = new Pair(where, setup);
    for (int i = 0; i < all.size(); i += step) {
      pair.ask(parts[0], all.get(i));
      if (alone || pair.asked == TOGETHER) {
        pair.compare();
        pair = new Pair(where, setup);
      }
    }
    pair.compare();
  }

  private static List<int[]> longer(List<int[]> all, int[] values) {
    List<int[]> more = new ArrayList<>();
    for (int[] begin : all) {
      for (int v : values) {
        int[] next = Arrays.copyOf(begin, begin.length + 1);
        next[begin.length] = v;
        more.add(next);
      }
    }
    return more;
  }

  /** A hen and a Model on which the same calls go. */
  private static final class Pair {
    private final String where;
    private final FedHen hen;
    private final Model model;
    private int asked = 0;
    private String last = "";

    private Pair(String where, List<String> setup) {
      this.where = where;
      hen = Rows.make(setup);
      model = Rows.with(new Model(), setup);
    }

    private void ask(String name, int[] values) {
      asked++;
      last = where + ": " + name + Arrays.toString(values);
      Check.due(last, Rows.ask(hen, name, values), Rows.ask(model, name, values));
    }

    private void compare() {
      if (asked > 0) {
        Refused.same(last, Told.statusOf(hen), Told.statusOf(model));
        Refused.same(last, Told.of(hen), Told.of(model));
      }
    }
  }
}
