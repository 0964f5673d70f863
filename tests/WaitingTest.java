/** Promises 26 to 32: what was fed, who waits, draws. */
public final class WaitingTest {
  public static void main(String[] args) {
    promise26Fits();
    promise27May();
    promise28Laid();
    promise29Room();
    promise30Starves();
    promise31Lent();
    promise32Seed();
    Check.end();
  }

  private static FedHen three() {
    return Check.sated(Check.CORN, Check.CORN, Check.THING);
  }

  private static void promise26Fits() {
    FedHen x = three();
    Check.due("fits 5 in a day", x.fits(5, 1), 4);
    Check.due("fits 10 in 2", x.fits(10, 2), 0);
    Check.due("fits 10 in 3", x.fits(10, 3), 2);
    Check.due("fits 5 in 60", x.fits(5, 60), 4);
    Check.due("no egg is no 0", x.fits(0, 1), 0);
    x.rule(1, 9);
    Check.due("hollow is 0", x.fits(0, 60), 6);
    FedHen y = Check.sated(Check.RING, Check.CORN);
    y.change(0, 2, 99);
    Check.due("the most", y.fits(104, 5), 1);
    Check.due("too early", y.fits(104, 4), 0);
    int[][] wrong = {{-1, 5}, {105, 5}, {5, 0}, {5, 61}};
    for (int[] w : wrong) {
      Check.due("fits beyond", y.fits(w[0], w[1]), Check.BEYOND);
    }
    FedHen z = three();
    z.fed(0);
    Check.due("the egg of one that is IN doesn't count", z.fits(5, 60), 1);
    Check.due("nor for the other row", z.fits(10, 60), 1);
    FedHen narrow = Check.sated(Check.METAL, Check.CORN, Check.THING);
    narrow.rule(0, 3);
    narrow.change(0, 1, 4);
    narrow.change(2, 1, 4);
    narrow.plan(7, 3);
    Check.due("the first one isn't fed, the second one is", narrow.fits(5, 2), 4);
    Check.due("nor is the second one on the first day", narrow.fits(5, 1), 2);
    FedHen late = Check.at(9990, "");
    Check.due("fits to the last day", late.fits(0, 9), 0);
    Check.due("fits above the last day", late.fits(0, 10), Check.STATE);
  }

  private static void promise27May() {
    FedHen x = three();
    Check.due("may 5 in a day", x.may(5, 1), 3);
    Check.due("may 10 in 2", x.may(10, 2), 0);
    Check.due("may 10 in 3", x.may(10, 3), 4);
    Check.due("nothing changed", x.now(0) + x.now(1), 0);
    FedHen y = Check.sated(Check.CORN, Check.RING);
    Check.due("one row is enough", y.may(5, 60), 1);
    Check.due("and for the other one", y.may(15, 60), 2);
    int[][] wrong = {{-1, 5}, {105, 5}, {5, 0}, {5, 61}};
    for (int[] w : wrong) {
      Check.due("may beyond", x.may(w[0], w[1]), Check.BEYOND);
    }
    Check.due("may above the last day", Check.at(9990, "").may(0, 10), Check.STATE);
  }

  private static void promise28Laid() {
    FedHen x = Check.hen(1, 1, 1, 1);
    x.change(1, 3, 1);
    x.change(2, 3, 1);
    for (int t = 0; t < 3; t++) {
      x.fed(t);
    }
    Check.due("none yet", x.laid(0), 0);
    x.days(2);
    Check.due("laid of 0", x.laid(0), 1);
    Check.due("laid of 1", x.laid(1), 2);
    x.days(1);
    Check.due("laid of 1, both", x.laid(1), 6);
    x.home(1);
    Check.due("one is taken home", x.laid(1), 4);
    Check.due("laid of -1", x.laid(-1), Check.BEYOND);
    Check.due("laid of 2", x.laid(2), Check.BEYOND);
  }

  private static void promise29Room() {
    FedHen x = Check.hen(0, 0, 0, 0, 1, 1);
    Check.due("room of none", x.room(0), 1);
    Check.due("room of one", x.room(1), 2);
    Check.due("room of three", x.room(7), 6);
    Check.due("room of four", x.room(15), 6);
    Check.due("room of corn", x.room(48), 2);
    x.rule(0, 1);
    Check.due("the room as it is doesn't count", x.room(7), 6);
    x.rule(0, 40);
    x.fed(0);
    Check.due("with one that is IN", x.room(6), 6);
    Check.due("none, with one that is IN", x.room(0), 1);
    Check.due("room of one IN", x.room(1), Check.STATE);
    Check.due("bits of none", x.room(64), Check.BEYOND);
    Check.due("bits of none, STATE too", x.room(65), Check.BEYOND);
    Check.due("bits of none", x.room(-2), Check.BEYOND);
    FedHen y = Check.hen(4, 4, 4, 4, 4);
    for (int t = 0; t < 5; t++) {
      y.change(t, 1, 8);
    }
    Check.due("room 40", y.room(31), 40);
    y.change(0, 1, 9);
    Check.due("above 40", y.room(31), Check.NONE);
    FedHen z = Check.hen(0, 0, 0, 0, 0, 0, 0, 0, 0);
    z.rule(0, 40);
    for (int t = 0; t < 8; t++) {
      z.fed(t);
    }
    Check.due("8 are IN", z.room(256), Check.NONE);
    Check.due("room on day 9989", Check.at(9989, "corn").room(1), 2);
    Check.due("room on day 9990", Check.at(9990, "corn").room(0), Check.STATE);
  }

  private static void promise30Starves() {
    FedHen x = Check.hen(0, 0, 0);
    x.change(0, 1, 9);
    x.change(1, 1, 3);
    Check.due("no egg", x.starves(60), 9);
    for (int t = 0; t < 3; t++) {
      x.change(t, 1, 4 - t);
      x.fed(t);
    }
    Check.due("no egg yet", x.starves(2), 9);
    Check.due("starves 3: of 9", x.starves(3), 9);
    Check.due("starves 4", x.starves(4), 5);
    Check.due("starves 5", x.starves(5), 2);
    x.rule(1, 9);
    Check.due("hunger as it is doesn't count", x.starves(60), 2);
    FedHen y = Check.hen(0, 0);
    y.fed(0);
    Check.due("one of bulk 2, not yet laid", y.starves(2), 9);
    Check.due("thing 0 of bulk 2", y.starves(3), 2);
    Check.due("starves 0", x.starves(0), Check.BEYOND);
    Check.due("starves 61", x.starves(61), Check.BEYOND);
    FedHen late = Check.at(9990, "");
    Check.due("starves to the last day", late.starves(9), 9);
    Check.due("starves above the last day", late.starves(10), Check.STATE);
  }

  /** From z 1 on the draws are 4310654, 9862832, 2589156, 12872603, 16337887, 9829236. */
  private static void promise31Lent() {
    FedHen x = Check.sated(Check.CORN);
    Check.due("lent 1", x.lent(1), 5);
    Check.due("z then", x.count(6), 1103527590);
    Check.due("it is LAID: not fed again", x.lent(1), 0);
    Check.due("z then", x.count(6), -1770082073);
    Check.due("days", x.now(0), 2);
    Check.due("eggs", x.now(3), 1);
    FedHen y = Check.sated(Check.CORN, Check.CORN);
    Check.due("0 alone in 3 draws", y.lent(3), 5);
    Check.due("1 by the fourth", y.lent(1), 5);
    Check.due("its egg", y.egg(0, 2), 3);
    FedHen z = Check.sated(Check.CORN, Check.CORN, Check.CORN);
    Check.due("of 3: 2, 2, 0, 2, 1, 0", z.lent(6), 15);
    int[] days = {4, 2, 0};
    for (int i = 0; i < 3; i++) {
      Check.due("of 3: the day of egg " + i, z.egg(i, 2), days[i]);
      Check.due("of 3: its thing", z.egg(i, 0), i == 0 ? 1 : i == 1 ? 0 : 2);
    }
    FedHen full = Check.sated(Check.CORN);
    full.rule(0, 1);
    Check.due("no room", full.lent(12), 0);
    Check.due("all days went", full.now(0), 12);
    Check.due("lent 0", full.lent(0), Check.BEYOND);
    Check.due("lent 13", full.lent(13), Check.BEYOND);
    Check.due("no things", new FedHen().lent(1), Check.STATE);
    FedHen late = Check.at(9990, "corn");
    Check.due("lent above the last day", late.lent(10), Check.STATE);
    Check.due("no draw was made", late.count(6), 1);
    Check.due("lent to the last day", late.lent(9), 5);
  }

  private static void promise32Seed() {
    FedHen x = Check.sated(Check.CORN);
    Check.due("seed", x.seed(-7), 1);
    Check.due("seed again", x.seed(Integer.MIN_VALUE), -7);
    Check.due("seed back", x.seed(-1000001), Integer.MIN_VALUE);
    Check.due("no finding", x.seed(-7), -1000001);
    Check.due("no finding is counted", x.status(-1), 0);
    x.thing(1);
    x.lent(1);
    Check.due("the draw 3380235 is odd", x.egg(0, 0), 1);
    Check.due("z then", x.count(6), 865340222);
  }
}
