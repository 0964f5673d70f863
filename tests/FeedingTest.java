/** Promises 16 to 22: feeding. */
public final class FeedingTest {
  public static void main(String[] args) {
    promise16Plan();
    promise16Room();
    promise17Best();
    promise18Ith();
    promise19Next();
    promise20Foes();
    promise21KindFor();
    promise22Rid();
    Check.end();
  }

  /** THING 10, METAL 20, CORN 9, all OUT. */
  private static FedHen three() {
    FedHen x = Check.hen(Check.THING, Check.METAL, Check.CORN);
    x.change(1, 2, 20);
    x.change(2, 2, 9);
    return x;
  }

  private static void promise16Plan() {
    FedHen x = three();
    int[] due = {0, 0, 0, 6, 6, 24, 28, 28};
    for (int n = 1; n < due.length; n++) {
      Check.due("plan in " + n, x.plan(7, n), due[n]);
    }
    Check.due("plan of none", x.plan(0, 60), 0);
    Check.due("plan of the corn", x.plan(4, 1), 4);
    Check.due("plan of one", x.plan(1, 60), 10);
    Check.due("nothing changed", x.now(0) + x.now(1) + x.of(0, 4), 0);
    int[][] wrong = {{0, 0}, {0, 61}, {8, 1}, {-1, 1}, {Integer.MIN_VALUE, 1}, {1 << 10, 1}};
    for (int[] w : wrong) {
      Check.due("plan beyond", x.plan(w[0], w[1]), Check.BEYOND);
    }
    x.fed(0);
    Check.due("plan of one IN", x.plan(3, 5), Check.STATE);
    Check.due("BEYOND ahead of STATE", x.plan(11, 5), Check.BEYOND);
    Check.due("plan with one IN", x.plan(4, 5), 14);
    x.days(3);
    Check.due("plan of one LAID", x.plan(1, 5), Check.STATE);
    FedHen y = Check.at(9990, "corn");
    Check.due("plan to the last day", y.plan(1, 9), 5);
    Check.due("plan above the last day", y.plan(1, 10), Check.STATE);
  }

  /** One for which there is no room isn't fed, and its DAY goes without. */
  private static void promise16Room() {
    FedHen x = Check.hen(Check.THING, Check.METAL, Check.METAL);
    x.rule(0, 10);
    x.change(1, 1, 9);
    Check.due("the third one on the third day", x.plan(7, 3), 8);
    Check.due("the second one without the first", x.plan(6, 4), 10);
    FedHen y = Check.sated(0, 0, 0, 0, 0, 0, 0, 0, Check.CORN, Check.CORN);
    y.rule(0, 40);
    for (int t = 0; t < 8; t++) {
      y.fed(t);
    }
    Check.due("8 are IN", y.plan(1 << 8, 60), y.plan(0, 60));
    Check.due("there is room later", y.plan(3 << 8, 60), y.plan(0, 60));
    y.days(3);
    Check.due("there is room", y.plan(1 << 8, 60) - y.plan(0, 60), 5);
  }

  private static void promise17Best() {
    FedHen x = three();
    Check.due("best in 6 days", x.best(3, 6), 24);
    Check.due("best in 4 days", x.best(3, 4), 17);
    Check.due("best of none", x.best(0, 4), 0);
    Check.due("best of one", x.best(2, 4), 20);
    Check.due("best of all", x.best(7, 60), 34);
    int[][] wrong = {{3, 0}, {3, 61}, {8, 1}, {-8, 1}};
    for (int[] w : wrong) {
      Check.due("best beyond", x.best(w[0], w[1]), Check.BEYOND);
    }
    FedHen y = Check.sated(1, 1, 1, 1, 1, 1);
    Check.due("best of 5", y.best(31, 5), 25);
    Check.due("best of 6", y.best(63, 5), Check.BEYOND);
    y.fed(0);
    Check.due("best of one IN", y.best(3, 5), Check.STATE);
    Check.due("BEYOND ahead of STATE", y.best(63, 5), Check.BEYOND);
    FedHen z = Check.at(9990, "corn");
    Check.due("best to the last day", z.best(1, 9), 5);
    Check.due("best above the last day", z.best(1, 10), Check.STATE);
  }

  private static void promise18Ith() {
    FedHen x = three();
    Check.due("first in 6 days", x.ith(3, 6, 0), 0);
    Check.due("second in 6 days", x.ith(3, 6, 1), 1);
    Check.due("first in 4 days", x.ith(3, 4, 0), 1);
    Check.due("second in 4 days", x.ith(3, 4, 1), 0);
    Check.due("in a day: the corn", x.ith(6, 1, 0), 2);
    Check.due("all as much: by numbers", x.ith(3, 1, 1), 1);
    int[] due = {0, 2, 1};
    for (int i = 0; i < 3; i++) {
      Check.due("of all, " + i, x.ith(7, 60, i), due[i]);
    }
    Check.due("i -1", x.ith(3, 6, -1), Check.BEYOND);
    Check.due("i 2 of 2", x.ith(3, 6, 2), Check.BEYOND);
    Check.due("i of none", x.ith(0, 6, 0), Check.BEYOND);
    Check.due("n 0", x.ith(3, 0, 0), Check.BEYOND);
    Check.due("bits of none", x.ith(8, 6, 0), Check.BEYOND);
    x.fed(0);
    Check.due("one IN", x.ith(3, 6, 0), Check.STATE);
    Check.due("BEYOND ahead of STATE", x.ith(3, 6, 2), Check.BEYOND);
    FedHen y = Check.sated(1, 1, 1, 1, 1, 1);
    Check.due("more than 5", y.ith(63, 6, 0), Check.BEYOND);
    y.change(3, 2, 40);
    int[] order = {3, 0, 1, 2, 4};
    for (int i = 0; i < 5; i++) {
      Check.due("one day of five, " + i, y.ith(31, 1, i), order[i]);
    }
    Check.due("above the last day", Check.at(9990, "corn").ith(1, 10, 0), Check.STATE);
  }

  private static void promise19Next() {
    FedHen x = three();
    int[] due = {-9, 2, 2, 0, 1, 1};
    for (int n = 1; n < due.length; n++) {
      Check.due("next in " + n, x.next(n), due[n]);
    }
    x.change(2, 2, 1);
    Check.due("no one brings more", x.next(1), -1);
    x.change(0, 0, Check.CORN);
    x.change(1, 0, Check.CORN);
    x.change(0, 2, 20);
    Check.due("the least of two", x.next(1), 0);
    x.rule(0, 1);
    Check.due("there is no room", x.next(1), -1);
    FedHen y = Check.hen(Check.DEED, Check.METAL);
    y.change(0, 2, 50);
    y.fed(0);
    Check.due("it would spoil the deed", y.next(60), -1);
    y.days(3);
    Check.due("the deed is laid", y.next(60), 1);
    Check.due("next 0", y.next(0), Check.BEYOND);
    Check.due("next 61", y.next(61), Check.BEYOND);
    FedHen z = Check.at(9990, "corn");
    Check.due("next to the last day", z.next(9), 0);
    Check.due("next above the last day", z.next(10), Check.STATE);
  }

  private static void promise20Foes() {
    FedHen x = Check.hen(Check.CORN, Check.DEED, Check.THING);
    x.change(1, 2, 50);
    Check.due("foes", x.foes(10), 12);
    Check.due("foes in a day: the first two", x.foes(1), 1);
    x.change(0, 0, Check.DEED);
    x.change(1, 0, Check.CORN);
    Check.due("foes by the lesser", x.foes(10), 2);
    x.plan(7, 3);
    Check.due("foes once more", x.foes(10), 2);
    FedHen u = Check.sated(Check.THING, Check.THING, Check.THING);
    u.change(0, 2, 1);
    Check.due("each loses 2, but the poor one", u.foes(10), 12);
    FedHen y = Check.hen(Check.THING, Check.THING, Check.THING);
    for (int t = 0; t < 3; t++) {
      y.change(t, 1, 1);
    }
    y.change(0, 2, 30);
    Check.due("they help each other: least", y.foes(10), 12);
    y.fed(0);
    Check.due("two are OUT", y.foes(10), 12);
    y.fed(1);
    Check.due("one is OUT", y.foes(10), Check.NONE);
    Check.due("foes 0", y.foes(0), Check.BEYOND);
    Check.due("foes 61", y.foes(61), Check.BEYOND);
    FedHen z = Check.at(9990, "corn");
    Check.due("foes to the last day", z.foes(9), Check.NONE);
    Check.due("foes above the last day", z.foes(10), Check.STATE);
  }

  private static void promise21KindFor() {
    FedHen x = Check.sated(Check.SAND);
    int[] due = {-9, 1, 1, 0, 0, 4};
    for (int n = 1; n < due.length; n++) {
      Check.due("kind for it in " + n, x.kindFor(0, n), due[n]);
    }
    x.change(0, 2, 1);
    Check.due("worth nothing as any", x.kindFor(0, 1), 0);
    Check.due("its kind stays", x.of(0, 0), Check.SAND);
    FedHen y = Check.sated(Check.DEED, Check.THING);
    y.change(1, 2, 40);
    y.fed(0);
    Check.due("behind a deed in 4", y.kindFor(1, 4), Check.GOLD);
    Check.due("behind a deed in 5", y.kindFor(1, 5), Check.RING);
    Check.due("kind for one IN", y.kindFor(0, 5), Check.STATE);
    int[][] wrong = {{-1, 5}, {2, 5}, {1, 0}, {1, 61}};
    for (int[] w : wrong) {
      Check.due("kind beyond", y.kindFor(w[0], w[1]), Check.BEYOND);
    }
    y.rule(0, 3);
    Check.due("no room", y.kindFor(1, 5), Check.FULL);
    Check.due("STATE ahead of FULL", y.kindFor(0, 5), Check.STATE);
    FedHen z = Check.at(9990, "thing;room 1");
    Check.due("kind to the last day", z.kindFor(0, 9), Check.FULL);
    Check.due("kind above the last day", z.kindFor(0, 10), Check.STATE);
  }

  private static void promise22Rid() {
    FedHen x = Check.hen(Check.DEED, Check.THING);
    Check.due("nothing is IN", x.rid(10), 0);
    x.change(0, 2, 50);
    x.fed(0);
    x.fed(1);
    Check.due("rid of the thing", x.rid(10), 2);
    Check.due("rid in 2 days: all as much", x.rid(2), 0);
    x.days(1);
    Check.due("stains stay: rid of the deed", x.rid(10), 1);
    Check.due("nothing changed", x.now(1), 2);
    FedHen y = Check.sated(Check.CORN);
    y.change(0, 2, 0);
    y.fed(0);
    Check.due("the empty one of several", y.rid(5), 0);
    Check.due("rid 0", y.rid(0), Check.BEYOND);
    Check.due("rid 61", y.rid(61), Check.BEYOND);
    FedHen z = Check.at(9990, "");
    Check.due("rid to the last day", z.rid(9), 0);
    Check.due("rid above the last day", z.rid(10), Check.STATE);
  }
}
