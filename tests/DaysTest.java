/** Promises 10 to 15: days. */
public final class DaysTest {
  public static void main(String[] args) {
    promise10Days();
    promise10Edges();
    promise11Now();
    promise12Ahead();
    promise13When();
    promise14Worth();
    promise15Spoils();
    Check.end();
  }

  /**
   * THING 10, METAL 20, CORN 9, all IN: laid on the DAYS 3, 4, 5 for 10 - 6, 20 - 3 and 9 / 2.
   */
  private static FedHen three() {
    FedHen x = Check.hen(Check.THING, Check.METAL, Check.CORN);
    x.change(1, 2, 20);
    x.change(2, 2, 9);
    x.fed(0);
    x.fed(1);
    x.fed(2);
    return x;
  }

  private static void promise10Days() {
    FedHen x = three();
    Check.due("2 days", x.days(2), 0);
    int[] stains = {4, 2, 4};
    for (int t = 0; t < 3; t++) {
      Check.due("stain of " + t, x.of(t, 6), stains[t]);
      Check.due("days of " + t, x.of(t, 5), 2);
    }
    Check.due("third day", x.days(1), 4);
    Check.due("its thing", x.egg(0, 0), 0);
    Check.due("its day", x.egg(0, 2), 2);
    Check.due("fourth day", x.days(1), 17);
    Check.due("stain of the corn", x.of(2, 6), 8);
    Check.due("fifth day", x.days(1), 4);
    Check.due("the sixth", x.days(1), 0);
    Check.due("day", x.now(0), 6);
    Check.due("eggs", x.now(3), 3);
    Check.due("hollow ones", x.now(4), 0);
    FedHen y = three();
    Check.due("5 days together", y.days(5), 25);
    FedHen z = three();
    z.rule(1, 3);
    Check.due("the last one hollow", z.days(60), 21);
    Check.due("hollow ones", z.now(4), 1);
    Check.due("its worth", z.egg(0, 1), 0);
  }

  private static void promise10Edges() {
    FedHen x = Check.sated(Check.CORN, Check.CORN);
    x.fed(0);
    x.fed(1);
    Check.due("at most one a day", x.days(1), 5);
    Check.due("the other one waits", x.crop(0), 1);
    Check.due("days 0", x.days(0), Check.BEYOND);
    Check.due("days 61", x.days(61), Check.BEYOND);
    Check.due("days -1", x.days(-1), Check.BEYOND);
    FedHen y = Check.at(9990, "");
    Check.due("days above the last", y.days(10), Check.STATE);
    Check.due("BEYOND ahead of STATE", y.days(61), Check.BEYOND);
    Check.due("days to the last", y.days(9), 0);
    Check.due("the last day", y.now(0), 9999);
    Check.due("behind the last", y.days(1), Check.STATE);
    FedHen z = Check.hen(Check.METAL, Check.THING);
    z.fed(0);
    z.days(2);
    z.change(0, 0, Check.CORN);
    z.fed(1);
    Check.due("more days than it takes", z.days(1), 5);
  }

  private static void promise11Now() {
    FedHen x = three();
    x.change(1, 1, 5);
    x.rule(0, 30);
    x.rule(1, 8);
    x.days(4);
    int[] due = {4, 1, 2, 2, 1, 30, 8};
    for (int what = 0; what <= 6; what++) {
      Check.due("now " + what, x.now(what), due[what]);
    }
    Check.due("now -1", x.now(-1), Check.BEYOND);
    Check.due("now 7", x.now(7), Check.BEYOND);
  }

  private static void promise12Ahead() {
    FedHen x = three();
    int[][] due = {{0, 0, 0, 3, 0, 0}, {2, 0, 0, 3, 10, 0}, {3, 1, 4, 2, 9, 1}, {4, 2, 21, 1, 8, 2},
        {5, 3, 25, 0, 0, -1}, {60, 3, 25, 0, 0, -1}};
    for (int[] d : due) {
      for (int what = 0; what <= 4; what++) {
        Check.due("ahead " + d[0] + " what " + what, x.ahead(d[0], what), d[1 + what]);
      }
    }
    Check.due("nothing changed", x.now(0) + x.of(0, 6) + x.now(3), 0);
    int[][] wrong = {{-1, 0}, {61, 0}, {1, -1}, {1, 5}};
    for (int[] w : wrong) {
      Check.due("ahead beyond", x.ahead(w[0], w[1]), Check.BEYOND);
    }
    FedHen y = Check.at(9999, "");
    Check.due("ahead 0 on the last day", y.ahead(0, 0), 0);
    Check.due("ahead of the last day", y.ahead(1, 0), Check.STATE);
    Check.due("BEYOND ahead of STATE", y.ahead(1, 5), Check.BEYOND);
  }

  private static void promise13When() {
    FedHen x = three();
    for (int t = 0; t < 3; t++) {
      Check.due("when " + t, x.when(t), 3 + t);
    }
    x.thing(0);
    Check.due("when it is OUT", x.when(3), Check.STATE);
    Check.due("when no such thing", x.when(4), Check.BEYOND);
    Check.due("when no such thing", x.when(-1), Check.BEYOND);
    x.days(3);
    Check.due("when it is LAID", x.when(0), Check.STATE);
    Check.due("when, later", x.when(2), 2);
    FedHen y = Check.at(9939, "corn");
    y.fed(0);
    Check.due("when on day 9939", y.when(0), 1);
    FedHen z = Check.at(9940, "corn");
    z.fed(0);
    Check.due("when on day 9940", z.when(0), Check.STATE);
    Check.due("when on day 9940, no such thing", z.when(1), Check.BEYOND);
  }

  private static void promise14Worth() {
    FedHen x = three();
    int[] due = {4, 17, 4};
    for (int t = 0; t < 3; t++) {
      Check.due("worth " + t, x.worth(t), due[t]);
    }
    x.rule(1, 5);
    Check.due("worth of a hollow one", x.worth(1), 0);
    x.thing(0);
    Check.due("worth of one OUT", x.worth(3), Check.STATE);
    Check.due("worth of nothing", x.worth(4), Check.BEYOND);
    FedHen y = Check.at(9939, "corn");
    y.fed(0);
    Check.due("worth on day 9939", y.worth(0), 5);
    FedHen z = Check.at(9940, "corn");
    z.fed(0);
    Check.due("worth on day 9940", z.worth(0), Check.STATE);
  }

  private static void promise15Spoils() {
    Check.due("spoils", three().spoils(), 3);
    FedHen x = Check.sated(Check.RING, Check.CORN);
    Check.due("nothing is IN", x.spoils(), Check.NONE);
    x.fed(0);
    Check.due("a ring alone", x.spoils(), Check.NONE);
    x.fed(1);
    Check.due("the corn behind it", x.spoils(), 6);
    x.change(1, 2, 0);
    Check.due("worth nothing at all", x.spoils(), Check.NONE);
    FedHen y = Check.hen(Check.THING);
    y.fed(0);
    Check.due("a thing alone", y.spoils(), Check.NONE);
    y.change(0, 1, 1);
    Check.due("hollow", y.spoils(), 3);
    Check.due("spoils on day 9939", Check.at(9939, "").spoils(), Check.NONE);
    Check.due("spoils on day 9940", Check.at(9940, "").spoils(), Check.STATE);
  }
}
