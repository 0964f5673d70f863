import java.util.List;

/** The bounds that promises 23 to 25 name, from both sides. */
public final class OwnerEdgesTest {
  public static void main(String[] args) {
    promise23Bounds();
    promise23TenCorns();
    promise23OneOwnerAlone();
    promise23OnesOwnAlone();
    promise23Room();
    promise24First();
    promise25Share();
    Check.end();
  }

  /** CORN t brings 5 times t; the even ones are OWNER 0's. */
  private static List<String> tenCorns() {
    List<String> calls = Hens.sated(1, 1, 1, 1, 1, 1, 1, 1, 1, 1);
    for (int t = 0; t < 10; t++) {
      calls.add("change(" + t + ", 2, " + 10 * t + ")");
      calls.add("change(" + t + ", 3, " + t % 2 + ")");
    }
    return calls;
  }

  private static void promise23Bounds() {
    Rows.after(Hens.sated(1), "turns", "turns(0, 0) = BEYOND", "turns(0, 5) = BEYOND", "turns(5, 5) = BEYOND",
        "turns(5, 60) = BEYOND", "turns(-1, 5) = BEYOND", "turns(1, 0) = BEYOND", "turns(1, 1) = 5", "turns(1, 60) = 5",
        "turns(1, 61) = BEYOND", "turns(2, 1) = BEYOND", "turns(2, 2) = 5", "turns(3, 2) = BEYOND", "turns(3, 3) = 5",
        "turns(4, 3) = BEYOND", "turns(4, 4) = 5", "turns(4, 60) = 5", "turns(4, 61) = BEYOND",
        "turns(MIN, 1) = BEYOND", "turns(MAX, MAX) = BEYOND", "turns(1, MIN) = BEYOND", "now(1) = 0", "now(0) = 0");
    Rows.after(Hens.sated(1), "first", "first(0, 0) = BEYOND", "first(0, 5) = BEYOND", "first(5, 5) = BEYOND",
        "first(1, 0) = BEYOND", "first(1, 1) = 0", "first(1, 60) = 0", "first(1, 61) = BEYOND", "first(4, 3) = BEYOND",
        "first(3, 3) = -1", "first(4, 4) = -1", "first(4, 60) = -1", "first(4, 61) = BEYOND", "first(MIN, 1) = BEYOND",
        "first(MAX, 1) = BEYOND", "first(1, MIN) = BEYOND", "first(1, MAX) = BEYOND");
    Rows.after(Rows.at(9999, "thing(1)"), "BEYOND ahead of STATE", "turns(1, 1) = STATE", "turns(2, 1) = BEYOND",
        "turns(5, 5) = BEYOND", "turns(1, 61) = BEYOND", "first(1, 1) = STATE", "first(2, 1) = BEYOND");
  }

  private static void promise23TenCorns() {
    Rows.after(tenCorns(), "by turns", "turns(1, 1) = 40", "turns(2, 2) = -5", "turns(3, 3) = 25", "turns(4, 4) = -10",
        "turns(4, 60) = -10", "first(1, 1) = 8", "first(2, 2) = 8", "first(3, 3) = 6", "first(4, 4) = 6",
        "first(4, 60) = 6");
    Rows.after(Hens.sated(0), "laid in time", "turns(1, 2) = 0", "first(1, 2) = -1", "turns(1, 3) = 10",
        "first(1, 3) = 0", "turns(3, 3) = 10", "first(3, 3) = 0", "turns(3, 4) = 10", "first(3, 4) = 0",
        "turns(3, 5) = 10");
  }

  private static void promise23OneOwnerAlone() {
    List<String> four = Hens.sated(1, 1, 1, 1);
    Rows.after(four, "all are owner 0's", "turns(1, 9) = 5", "turns(2, 9) = 5", "turns(3, 9) = 10", "turns(4, 9) = 10");
    Rows.after(Hens.and(four, "change(0, 3, 1)", "change(1, 3, 1)", "change(2, 3, 1)", "change(3, 3, 1)"),
        "all are owner 1's", "turns(1, 9) = 0", "turns(2, 9) = -5", "turns(3, 9) = -5", "turns(4, 9) = -10",
        "first(4, 9) = -1");
    Rows.after(Hens.and(Hens.sated(0, 0), "change(1, 3, 1)", "fed(0)", "fed(1)"), "none is out", "turns(1, 2) = 0",
        "turns(1, 3) = 7", "turns(4, 4) = 0", "first(4, 4) = -1");
  }

  /** Feeding another one's THING would make it more (or less), but one can't. */
  private static void promise23OnesOwnAlone() {
    Rows.after(List.of("thing(1)", "thing(1)", "change(1, 3, 1)", "change(1, 2, 0)", "fed(0)", "rule(1, 4)"),
        "owner 0 can't feed owner 1's", "turns(1, 1) = 0", "first(1, 1) = -1", "change(1, 3, 0) = 1", "turns(1, 1) = 5",
        "first(1, 1) = 1");
    Rows.after(Hens.and(Hens.sated(6, 0), "change(0, 2, 50)", "change(1, 2, 0)", "fed(0)"),
        "owner 1 can't feed owner 0's", "turns(2, 10) = 50", "first(2, 10) = -1", "change(1, 3, 1) = 0",
        "turns(2, 10) = 0", "turns(1, 10) = 50");
    Rows.after(Hens.and(Hens.sated(1, 0), "fed(0)", "days(1)"), "what is laid can't be fed", "turns(1, 3) = 10",
        "first(1, 3) = 1", "turns(1, 2) = 0", "home(0) = 5", "turns(1, 2) = 5");
  }

  private static void promise23Room() {
    List<String> two = Hens.and(Hens.sated(1, 1), "change(1, 2, 40)", "change(1, 1, 9)");
    Rows.after(Hens.and(two, "rule(0, 9)"), "room for the better one", "turns(1, 1) = 20", "first(1, 1) = 1",
        "rule(0, 8) = 9", "turns(1, 1) = 5", "first(1, 1) = 0", "rule(0, 2) = 8", "turns(1, 1) = 5", "rule(0, 1) = 2",
        "turns(1, 1) = 0", "first(1, 1) = -1");
    List<String> eight = Hens.sated(1, 1, 1, 1, 1, 1, 1, 1, 1);
    eight.add("rule(0, 40)");
    for (int t = 0; t < 8; t++) {
      eight.add("fed(" + t + ")");
    }
    Rows.after(eight, "eight are in", "turns(1, 9) = 40", "first(1, 9) = -1", "turns(2, 9) = 40", "turns(3, 9) = 45",
        "first(3, 9) = -1");
  }

  private static void promise24First() {
    Rows.after(Hens.sated(1, 1, 1), "the least that does", "first(1, 9) = 0", "first(3, 9) = 0",
        "change(1, 2, 12) = 10", "first(1, 9) = 1", "change(0, 2, 1) = 10", "change(1, 2, 1) = 12",
        "change(2, 2, 1) = 10", "first(1, 9) = -1", "turns(1, 9) = 0", "change(2, 2, 2) = 1", "first(1, 9) = 2",
        "first(3, 9) = -1", "turns(3, 9) = 1");
  }

  private static void promise25Share() {
    List<String> two = Hens.and(Hens.sated(1, 0), "change(1, 3, 1)", "fed(0)", "fed(1)");
    Rows.after(two, "share", "share(-1, 1) = BEYOND", "share(2, 1) = BEYOND", "share(0, -1) = BEYOND",
        "share(0, 61) = BEYOND", "share(0, 0) = 0", "share(1, 0) = 0", "share(0, 1) = 5", "share(1, 2) = 0",
        "share(1, 3) = 10", "share(0, 60) = 5", "share(1, 60) = 10", "change(0, 3, 1) = 0", "share(0, 60) = 0",
        "share(1, 60) = 15", "rule(1, 5) = 0", "share(1, 60) = 0", "now(0) = 0");
    Rows.after(Rows.at(9999), "BEYOND ahead of STATE", "share(2, 1) = BEYOND", "share(0, 61) = BEYOND",
        "share(2, 0) = BEYOND", "share(1, 1) = STATE", "share(1, 0) = 0");
  }
}
