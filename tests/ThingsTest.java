/** Promises 1 to 9: things, the hen. */
public final class ThingsTest {
  public static void main(String[] args) {
    promise1New();
    promise2Thing();
    promise3Of();
    promise3Left();
    promise4Change();
    promise5Rule();
    promise6Fed();
    promise7Home();
    promise8Crop();
    promise9Egg();
    Check.end();
  }

  private static void promise1New() {
    FedHen x = new FedHen();
    int[] counts = {0, 0, 0, 0, 0, 0, 1, 0};
    for (int what = 0; what < counts.length; what++) {
      Check.due("new: count " + what, x.count(what), counts[what]);
    }
    int[] nows = {0, 0, 0, 0, 0, 12, 2};
    for (int what = 0; what < nows.length; what++) {
      Check.due("new: now " + what, x.now(what), nows[what]);
    }
    for (int which = -1; which <= 6; which++) {
      Check.due("new: status " + which, x.status(which), 0);
    }
    Check.due("new: wipe", x.wipe(), 0);
    Check.due("new: undo", x.undo(), Check.NONE);
    Check.due("new: tear", x.tear(), 0);
    for (int s = 0; s < 4; s++) {
      Check.due("new: write", x.write(s, 0, 0), Check.MISSING);
    }
    for (int spot = 0; spot < 10; spot++) {
      Check.due("new: as", x.as(spot, 0), Check.MISSING);
    }
    Check.due("new: crop", x.crop(0), Check.NONE);
    Check.due("new: egg", x.egg(0, 0), Check.NONE);
    Check.due("new: of", x.of(0, 0), Check.BEYOND);
  }

  private static void promise2Thing() {
    FedHen x = new FedHen();
    int[] wrong = {-1, 7, Integer.MIN_VALUE, Integer.MAX_VALUE};
    for (int kind : wrong) {
      Check.due("thing of no kind", x.thing(kind), Check.BEYOND);
    }
    for (int t = 0; t < 10; t++) {
      Check.due("thing", x.thing(t % 7), t);
      Check.due("thing: its kind", x.of(t, 0), t % 7);
      Check.due("thing: its bulk", x.of(t, 1), 2);
      Check.due("thing: its worth", x.of(t, 2), 10);
      Check.due("thing: its owner", x.of(t, 3), 0);
      Check.due("thing: it is OUT", x.of(t, 4), 0);
    }
    Check.due("11th thing", x.thing(0), Check.FULL);
    Check.due("11th thing, of no kind", x.thing(7), Check.BEYOND);
    Check.due("things", x.count(1), 10);
    Check.due("no 11th thing", x.of(10, 0), Check.BEYOND);
  }

  private static void promise3Of() {
    FedHen x = Check.sated(0, 1, 2, 3, 4, 5, 6);
    int[] takes = {3, 1, 4, 4, 5, 5, 3};
    int[] stains = {1, 0, 2, 1, 1, 2, 4};
    int[] left = {25, 12, 25, 25, 30, 12, 25};
    for (int kind = 0; kind <= 6; kind++) {
      x.change(kind, 2, 25);
      Check.due("of: takes of kind " + kind, x.of(kind, 7), takes[kind]);
      Check.due("of: stains of kind " + kind, x.of(kind, 8), stains[kind]);
      Check.due("of: left of kind " + kind, x.of(kind, 9), left[kind]);
    }
    x.fed(0);
    x.fed(6);
    x.days(2);
    Check.due("of: IN", x.of(0, 4), 1);
    Check.due("of: days", x.of(0, 5), 2);
    Check.due("of: stain", x.of(0, 6), 8);
    Check.due("of: stain of the other one", x.of(6, 6), 2);
    Check.due("of: left, stained", x.of(0, 9), 17);
    x.days(1);
    Check.due("of: LAID", x.of(0, 4), 2);
    Check.due("of: days of a LAID one", x.of(0, 5), 0);
    Check.due("of: stain of a LAID one", x.of(0, 6), 0);
    Check.due("of: left of a LAID one", x.of(0, 9), 25);
    int[][] wrong = {{-1, 0}, {7, 0}, {0, -1}, {0, 10}, {Integer.MIN_VALUE, 0}, {0, Integer.MAX_VALUE}};
    for (int[] w : wrong) {
      Check.due("of nothing", x.of(w[0], w[1]), Check.BEYOND);
    }
  }

  /** Between a THING and a DEED each KIND has 5 more of STAIN a DAY. */
  private static void promise3Left() {
    int[] one = {20, 12, 20, 23, 28, 12, 0};
    int[] two = {15, 12, 15, 20, 25, 12, 0};
    int[] poor = {0, 1, 0, 0, 5, 1, 0};
    for (int kind = 0; kind <= 6; kind++) {
      FedHen x = Check.sated(Check.THING, kind, Check.DEED);
      x.change(1, 2, 25);
      x.fed(0);
      x.fed(1);
      x.fed(2);
      x.days(1);
      Check.due("of: left of kind " + kind + " with stain 5", x.of(1, 9), one[kind]);
      x.days(1);
      Check.due("of: stain of kind " + kind, x.of(1, 6), 10);
      Check.due("of: left of kind " + kind + " with stain 10", x.of(1, 9), two[kind]);
      x.change(1, 2, 3);
      Check.due("of: left of kind " + kind + " worth 3", x.of(1, 9), poor[kind]);
    }
  }

  private static void promise4Change() {
    FedHen x = Check.hen(Check.GOLD);
    Check.due("change kind", x.change(0, 0, 6), 3);
    Check.due("change bulk", x.change(0, 1, 9), 2);
    Check.due("change worth", x.change(0, 2, 99), 10);
    Check.due("change owner", x.change(0, 3, 1), 0);
    int[] now = {6, 9, 99, 1};
    for (int what = 0; what < 4; what++) {
      Check.due("changed " + what, x.of(0, what), now[what]);
    }
    Check.due("change kind to 0", x.change(0, 0, 0), 6);
    Check.due("change bulk to 1", x.change(0, 1, 1), 9);
    Check.due("change worth to 0", x.change(0, 2, 0), 99);
    Check.due("change owner to 0", x.change(0, 3, 0), 1);
    int[][] wrong = {{-1, 0, 0}, {1, 0, 0}, {0, -1, 0}, {0, 4, 0}, {0, 0, -1}, {0, 0, 7}, {0, 1, 0}, {0, 1, 10},
        {0, 2, -1}, {0, 2, 100}, {0, 3, -1}, {0, 3, 2}, {0, Integer.MAX_VALUE, 1}, {0, 2, Integer.MIN_VALUE}};
    for (int[] w : wrong) {
      Check.due("change of nothing", x.change(w[0], w[1], w[2]), Check.BEYOND);
    }
    x.fed(0);
    Check.due("change of one that is IN", x.change(0, 1, 9), 1);
    Check.due("its bulk counts", x.now(2), 9);
  }

  private static void promise5Rule() {
    FedHen x = new FedHen();
    Check.due("rule room", x.rule(0, 40), 12);
    Check.due("rule hunger", x.rule(1, 9), 2);
    Check.due("rule room back", x.rule(0, 1), 40);
    Check.due("rule hunger back", x.rule(1, 0), 9);
    Check.due("room", x.now(5), 1);
    Check.due("hunger", x.now(6), 0);
    int[][] wrong = {{0, 0}, {0, 41}, {1, -1}, {1, 10}, {-1, 1}, {2, 1}, {0, Integer.MIN_VALUE}};
    for (int[] w : wrong) {
      Check.due("rule beyond", x.rule(w[0], w[1]), Check.BEYOND);
    }
    Check.due("room stays", x.now(5), 1);
  }

  private static void promise6Fed() {
    FedHen x = Check.sated(0, 0, 0, 0, 0, 0, 0, 0, 0, 0);
    Check.due("fed", x.fed(3), 1);
    Check.due("fed again", x.fed(3), Check.STATE);
    Check.due("fed: no such thing", x.fed(10), Check.BEYOND);
    Check.due("fed: no such thing", x.fed(-1), Check.BEYOND);
    x.change(4, 1, 9);
    x.change(5, 1, 2);
    Check.due("fed up to 11 of 12", x.fed(4), 2);
    Check.due("fed above ROOM", x.fed(5), Check.FULL);
    Check.due("fed: STATE ahead of FULL", x.fed(3), Check.STATE);
    x.change(5, 1, 1);
    Check.due("fed up to ROOM", x.fed(5), 3);
    x.rule(0, 40);
    for (int t = 0; t < 3; t++) {
      Check.due("fed", x.fed(t), 4 + t);
    }
    Check.due("fed", x.fed(6), 7);
    Check.due("fed: the 8th", x.fed(7), 8);
    Check.due("fed: the 9th", x.fed(8), Check.FULL);
    x.days(3);
    Check.due("it is laid", x.of(3, 4), 2);
    Check.due("fed a LAID one", x.fed(3), Check.STATE);
    Check.due("fed: the 8th again", x.fed(8), 8);
    Check.due("fed: days begin anew", x.of(8, 5), 0);
  }

  private static void promise7Home() {
    FedHen x = Check.sated(Check.CORN, Check.CORN);
    Check.due("home: no such thing", x.home(2), Check.BEYOND);
    Check.due("home: no such thing", x.home(-1), Check.BEYOND);
    Check.due("home: it is OUT", x.home(0), Check.STATE);
    x.fed(0);
    Check.due("home: it is IN", x.home(0), Check.STATE);
    x.days(1);
    Check.due("home", x.home(0), 5);
    Check.due("home: it is OUT then", x.of(0, 4), 0);
    x.change(0, 2, 40);
    x.fed(0);
    x.days(1);
    x.change(0, 2, 10);
    Check.due("home: the latest egg", x.home(0), 20);
    x.fed(0);
    x.days(1);
    for (int i = 0; i < 11; i++) {
      x.fed(1);
      x.days(1);
      Check.due("home: the other one", x.home(1), 5);
    }
    x.image();
    Check.due("home: the last of 12", x.home(0), 5);
    x.undo();
    x.fed(1);
    x.days(1);
    Check.due("home: no egg of it any more", x.home(0), -1);
    Check.due("home: it is OUT all the same", x.of(0, 4), 0);
  }

  private static void promise8Crop() {
    FedHen x = Check.sated(0, 0, 0);
    x.fed(2);
    x.fed(0);
    x.fed(1);
    Check.due("crop 0", x.crop(0), 2);
    Check.due("crop 1", x.crop(1), 0);
    Check.due("crop 2", x.crop(2), 1);
    Check.due("crop 3", x.crop(3), Check.NONE);
    Check.due("crop 7", x.crop(7), Check.NONE);
    Check.due("crop 8", x.crop(8), Check.BEYOND);
    Check.due("crop -1", x.crop(-1), Check.BEYOND);
    x.days(3);
    Check.due("crop 0 then", x.crop(0), 0);
    Check.due("crop 2 then", x.crop(2), Check.NONE);
  }

  private static void promise9Egg() {
    FedHen x = Check.sated(Check.CORN, Check.CORN);
    for (int i = 0; i < 14; i++) {
      x.change(i % 2, 2, 2 * i);
      x.fed(i % 2);
      x.days(1);
      x.home(i % 2);
    }
    for (int i = 0; i < 12; i++) {
      Check.due("egg " + i + ": thing", x.egg(i, 0), (13 - i) % 2);
      Check.due("egg " + i + ": worth", x.egg(i, 1), 13 - i);
      Check.due("egg " + i + ": day", x.egg(i, 2), 13 - i);
    }
    Check.due("egg 12", x.egg(12, 0), Check.NONE);
    Check.due("egg far", x.egg(Integer.MAX_VALUE, 2), Check.NONE);
    Check.due("egg -1", x.egg(-1, 0), Check.BEYOND);
    Check.due("egg what -1", x.egg(0, -1), Check.BEYOND);
    Check.due("egg what 3", x.egg(12, 3), Check.BEYOND);
    Check.due("eggs ever", x.now(3), 14);
  }
}
