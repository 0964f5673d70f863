/** Promises 23 to 25: two owners. */
public final class OwnersTest {
  public static void main(String[] args) {
    promise23Turns();
    promise23More();
    promise24First();
    promise25Share();
    Check.end();
  }

  /** A THING of each OWNER. */
  private static FedHen two() {
    FedHen x = Check.hen(Check.THING, Check.THING);
    x.change(1, 3, 1);
    return x;
  }

  private static void promise23Turns() {
    FedHen x = two();
    Check.due("one turn, laid too late", x.turns(1, 2), 0);
    Check.due("one turn", x.turns(1, 3), 10);
    Check.due("two turns in 2", x.turns(2, 2), 0);
    Check.due("two turns in 3", x.turns(2, 3), 8);
    Check.due("two turns in 4", x.turns(2, 4), 0);
    Check.due("nothing changed", x.now(0) + x.now(1), 0);
    int[][] wrong = {{0, 5}, {5, 5}, {2, 1}, {4, 3}, {1, 61}, {-1, -1}, {1, 0}};
    for (int[] w : wrong) {
      Check.due("turns beyond", x.turns(w[0], w[1]), Check.BEYOND);
    }
    Check.due("turns 60", x.turns(4, 60), 0);
    FedHen y = Check.at(9990, "corn");
    Check.due("turns to the last day", y.turns(1, 9), 5);
    Check.due("turns above the last day", y.turns(1, 10), Check.STATE);
    Check.due("BEYOND ahead of STATE", y.turns(10, 9), Check.BEYOND);
  }

  /** Corn is LAID on the DAY on which it is fed, so that turns are plain sums. */
  private static void promise23More() {
    FedHen x = Check.sated(Check.CORN, Check.CORN, Check.CORN, Check.CORN);
    x.change(1, 3, 1);
    x.change(3, 3, 1);
    x.change(0, 2, 40);
    x.change(1, 2, 30);
    x.change(2, 2, 60);
    x.change(3, 2, 2);
    Check.due("k 1", x.turns(1, 5), 30);
    Check.due("k 2", x.turns(2, 5), 15);
    Check.due("k 3", x.turns(3, 5), 35);
    Check.due("k 4", x.turns(4, 5), 34);
    x.rule(0, 3);
    x.change(0, 1, 4);
    Check.due("no room for one of them", x.turns(4, 5), 14);
    x.change(2, 3, 1);
    Check.due("OWNER 0 has nothing to feed", x.turns(4, 5), -45);
    Check.due("it feeds nothing", x.first(4, 5), -1);
  }

  private static void promise24First() {
    FedHen x = two();
    Check.due("too late: nothing", x.first(1, 2), -1);
    Check.due("one turn", x.first(1, 3), 0);
    Check.due("two turns in 4", x.first(2, 4), 0);
    FedHen y = Check.sated(Check.CORN, Check.CORN, Check.CORN);
    y.change(1, 2, 20);
    y.change(2, 2, 20);
    Check.due("the least of two", y.first(1, 5), 1);
    Check.due("any order: the least", y.first(3, 5), 1);
    y.change(1, 3, 1);
    Check.due("one's own alone", y.first(1, 5), 2);
    FedHen z = Check.hen(Check.CORN, Check.CORN);
    z.change(0, 3, 1);
    z.change(1, 2, 1);
    Check.due("it brings nothing", z.first(2, 5), -1);
    Check.due("but OWNER 1 feeds", z.turns(2, 5), -5);
    int[][] wrong = {{0, 5}, {5, 5}, {2, 1}, {1, 61}};
    for (int[] w : wrong) {
      Check.due("first beyond", x.first(w[0], w[1]), Check.BEYOND);
    }
    FedHen late = Check.at(9990, "corn");
    Check.due("first to the last day", late.first(1, 9), 0);
    Check.due("first above the last day", late.first(1, 10), Check.STATE);
  }

  private static void promise25Share() {
    FedHen x = two();
    x.fed(0);
    x.fed(1);
    x.rule(1, 0);
    int[][] due = {{0, 0, 0}, {2, 0, 0}, {3, 7, 0}, {4, 7, 7}, {60, 7, 7}};
    for (int[] d : due) {
      Check.due("share of 0 in " + d[0], x.share(0, d[0]), d[1]);
      Check.due("share of 1 in " + d[0], x.share(1, d[0]), d[2]);
    }
    int[][] wrong = {{-1, 5}, {2, 5}, {0, -1}, {0, 61}};
    for (int[] w : wrong) {
      Check.due("share beyond", x.share(w[0], w[1]), Check.BEYOND);
    }
    FedHen y = Check.at(9999, "");
    Check.due("share in none", y.share(0, 0), 0);
    Check.due("share above the last day", y.share(0, 1), Check.STATE);
  }
}
