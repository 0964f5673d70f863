import java.util.ArrayList;
import java.util.List;

/** The least and the greatest int as every parameter of every call, and as all of them at once. */
public final class FarIntsTest {
  /** A call, and for each of its parameters what is due with the least int there and with the greatest. */
  private static final String[] CALLS = {
      "thing(1): BEYOND BEYOND", "of(0, 0): BEYOND BEYOND, BEYOND BEYOND",
      "change(0, 2, 5): BEYOND BEYOND, BEYOND BEYOND, BEYOND BEYOND",
      "change(0, 0, 5): BEYOND BEYOND, BEYOND BEYOND, BEYOND BEYOND",
      "change(0, 1, 5): BEYOND BEYOND, BEYOND BEYOND, BEYOND BEYOND",
      "change(0, 3, 1): BEYOND BEYOND, BEYOND BEYOND, BEYOND BEYOND",
      "rule(0, 5): BEYOND BEYOND, BEYOND BEYOND", "rule(1, 5): BEYOND BEYOND, BEYOND BEYOND", "fed(0): BEYOND BEYOND",
      "home(0): BEYOND BEYOND", "crop(0): BEYOND BEYOND", "egg(0, 0): BEYOND NONE, BEYOND BEYOND",
      "days(1): BEYOND BEYOND", "now(0): BEYOND BEYOND", "ahead(1, 0): BEYOND BEYOND, BEYOND BEYOND",
      "when(0): BEYOND BEYOND", "worth(0): BEYOND BEYOND", "plan(0, 1): BEYOND BEYOND, BEYOND BEYOND",
      "best(0, 1): BEYOND BEYOND, BEYOND BEYOND", "ith(8, 1, 0): BEYOND BEYOND, BEYOND BEYOND, BEYOND BEYOND",
      "next(1): BEYOND BEYOND", "foes(1): BEYOND BEYOND", "kindFor(3, 1): BEYOND BEYOND, BEYOND BEYOND",
      "rid(1): BEYOND BEYOND", "turns(1, 1): BEYOND BEYOND, BEYOND BEYOND", "first(1, 1): BEYOND BEYOND, BEYOND BEYOND",
      "share(0, 1): BEYOND BEYOND, BEYOND BEYOND", "fits(0, 1): BEYOND BEYOND, BEYOND BEYOND",
      "may(0, 1): BEYOND BEYOND, BEYOND BEYOND", "laid(0): BEYOND BEYOND", "room(0): BEYOND BEYOND",
      "starves(1): BEYOND BEYOND", "lent(1): BEYOND BEYOND", "hold(0, 0): BEYOND BEYOND, BEYOND BEYOND",
      "hold(0, -1): BEYOND BEYOND, BEYOND BEYOND", "as(0, 0): BEYOND BEYOND, BEYOND BEYOND",
      "sheet(0, 8, 1): BEYOND BEYOND, BEYOND BEYOND, SIZE BEYOND",
      "sheet(0, 0, 1): BEYOND BEYOND, BEYOND BEYOND, SIZE BEYOND", "write(0, 0, 5): BEYOND BEYOND, BEYOND BEYOND, 1 1",
      "copy(0, 0, 0, 0, 1): BEYOND BEYOND, BEYOND BEYOND, BEYOND BEYOND, BEYOND BEYOND, BEYOND BEYOND",
      "copy(0, 0, 0, 0, 0): BEYOND BEYOND, BEYOND BEYOND, BEYOND BEYOND, BEYOND BEYOND, BEYOND BEYOND",
      "load(0): BEYOND BEYOND", "judge(0): BEYOND BEYOND", "count(0): BEYOND BEYOND", "status(0): BEYOND BEYOND"};

  public static void main(String[] args) {
    for (String call : CALLS) {
      eachParameter("busy", Hens.busy(), call);
      eachParameter("full", Hens.full(), call);
      eachParameter("day 9999", Hens.late(9999), call);
      allParameters(call);
    }
    wherePartIsMissing();
    whatMayBeFar();
    Check.end();
  }

  private static void eachParameter(String where, List<String> setup, String call) {
    String[] parts = call.split(": ");
    String[] values = valuesOf(parts[0]);
    String[] due = parts[1].split(", ");
    for (int p = 0; p < values.length; p++) {
      String[] answers = due[p].split(" ");
      row(where, setup, with(parts[0], p, "MIN") + " = " + answers[0]);
      row(where, setup, with(parts[0], p, "MAX") + " = " + answers[1]);
    }
  }

  private static void row(String where, List<String> setup, String row) {
    if (Rows.answerOf(row) < -1000000) {
      Refused.on(where, setup, row);
    } else {
      Rows.after(setup, where, row);
    }
  }

  private static String[] valuesOf(String call) {
    return call.substring(call.indexOf('(') + 1, call.length() - 1).split(", ");
  }

  private static String with(String call, int place, String value) {
    String[] values = valuesOf(call);
    values[place] = value;
    return call.substring(0, call.indexOf('(')) + "(" + String.join(", ", values) + ")";
  }

  /** Each parameter is the least int or the greatest one; BEYOND is asked ahead of all else. */
  private static void allParameters(String call) {
    int n = valuesOf(call.split(": ")[0]).length;
    List<String> rows = new ArrayList<>();
    for (int bits = 0; bits < 1 << n; bits++) {
      String far = call.split(": ")[0];
      for (int p = 0; p < n; p++) {
        far = with(far, p, (bits >> p & 1) != 0 ? "MAX" : "MIN");
      }
      rows.add(far + " = BEYOND");
    }
    Rows.after(Hens.busy(), "all far", rows.toArray(new String[0]));
    Rows.after(List.of(), "all far, empty", rows.toArray(new String[0]));
  }

  private static void wherePartIsMissing() {
    Refused.on("a MISSING sheet", Hens.busy(), "write(3, MIN, 0) = MISSING", "write(3, MAX, 0) = MISSING",
        "copy(3, MIN, 0, 0, 0) = MISSING", "copy(0, 0, 3, MAX, 0) = MISSING", "copy(3, 0, 3, 0, MIN) = MISSING",
        "copy(0, MAX, 1, 0, 0) = KIND", "copy(0, 0, 1, MIN, 0) = KIND", "copy(0, 0, 1, 0, MAX) = KIND",
        "sheet(3, 0, MIN) = SIZE", "sheet(3, 0, MAX) = BEYOND", "as(1, MIN) = BEYOND", "as(1, MAX) = BEYOND");
    Refused.on("no things", List.of(), "lent(MIN) = BEYOND", "lent(MAX) = BEYOND", "foes(MIN) = BEYOND",
        "foes(MAX) = BEYOND", "crop(MIN) = BEYOND", "crop(MAX) = BEYOND", "egg(MAX, 0) = NONE", "egg(MIN, 0) = BEYOND",
        "room(MIN) = BEYOND", "room(MAX) = BEYOND", "plan(MAX, 1) = BEYOND", "kindFor(MAX, 1) = BEYOND");
    Refused.on("the full tape", Hens.full(), "feed(MIN, 1) = FULL", "feed(MAX, 4) = FULL", "feed(0, MIN) = BEYOND",
        "feed(0, MAX) = BEYOND");
  }

  private static void whatMayBeFar() {
    Rows.after(List.of("sheet(0, 8, 1)", "sheet(1, 16, 1)", "sheet(2, 32, 1)", "thing(0)"), "far, but right",
        "seed(MIN) = 1", "seed(MAX) = MIN", "seed(1) = MAX", "feed(MIN, 4) = 4", "feed(MAX, 4) = 8", "feed(MIN, 1) = 9",
        "feed(MAX, 1) = 10", "write(0, 0, MIN) = 1", "load(0) = 1", "of(0, 2) = 0", "write(1, 0, MAX) = 1",
        "judge(1) = 0", "load(1) = 0", "write(2, 0, MAX) = 1", "judge(2) = 1", "load(2) = 0", "write(2, 0, MIN) = 1",
        "judge(2) = 1", "load(2) = 0", "status(-1) = 0");
    Rows.after(List.of(), "far bytes", "feed(0, MIN) = BEYOND", "feed(0, MAX) = BEYOND", "feed(MIN, MIN) = BEYOND",
        "feed(MAX, MAX) = BEYOND", "count(5) = 0");
  }
}
