import java.util.List;

/** The bounds that the Terms' 1. THINGS and promises 1 to 9 name, from both sides; the empty hen and the full one. */
public final class ThingEdgesTest {
  public static void main(String[] args) {
    terms1NoThings();
    terms1TenThings();
    terms1Bulk();
    terms1Worth();
    terms1Owner();
    terms1EightIn();
    terms1RoomToItsLastBulk();
    terms1RoomBelowWhatIsIn();
    terms1Takes();
    terms1Stains();
    terms1LeftAtLeastNone();
    terms1QuotientsAreCut();
    promise1New();
    promise2Thing();
    promise3Of();
    promise4Change();
    promise5Rule();
    promise6Fed();
    promise7Home();
    promise8Crop();
    promise9Egg();
    Check.end();
  }

  private static void terms1NoThings() {
    Rows.after(List.of(), "no things", "count(1) = 0", "of(0, 0) = BEYOND", "change(0, 2, 5) = BEYOND",
        "fed(0) = BEYOND", "home(0) = BEYOND", "crop(0) = NONE", "crop(7) = NONE", "egg(0, 0) = NONE",
        "when(0) = BEYOND", "worth(0) = BEYOND", "spoils() = NONE", "plan(0, 1) = 0", "plan(1, 1) = BEYOND",
        "best(0, 60) = 0", "best(1, 60) = BEYOND", "ith(0, 60, 0) = BEYOND", "next(60) = -1", "foes(60) = NONE",
        "kindFor(0, 60) = BEYOND", "rid(60) = 0", "turns(1, 1) = 0", "turns(4, 60) = 0", "first(1, 1) = -1",
        "first(4, 60) = -1", "share(0, 0) = 0", "share(1, 60) = 0", "fits(0, 60) = 0", "fits(104, 1) = 0",
        "may(0, 60) = 0", "laid(0) = 0", "laid(1) = 0", "room(0) = 1", "room(1) = BEYOND", "starves(60) = 9",
        "lent(1) = STATE", "hold(0, 0) = BEYOND", "hold(0, -1) = 1", "as(0, 0) = MISSING", "count(4) = 0");
    Rows.after(List.of(), "no things ahead", "ahead(0, 0) = 0", "ahead(60, 0) = 0", "ahead(60, 1) = 0",
        "ahead(60, 2) = 0", "ahead(60, 3) = 0", "ahead(0, 4) = -1", "ahead(60, 4) = -1", "days(1) = 0", "days(60) = 0",
        "now(0) = 61", "now(1) = 0", "now(2) = 0", "now(3) = 0", "now(4) = 0");
    Rows.after(List.of("sheet(0, 8, 2)"), "no things to load", "load(0) = 0", "judge(0) = 1", "write(0, 0, -1) = 1",
        "judge(0) = 2", "write(0, 1, -1) = 1", "judge(0) = 0");
  }

  private static void terms1TenThings() {
    List<String> nine = Hens.sated(0, 0, 0, 0, 0, 0, 0, 0, 0);
    Rows.after(nine, "nine things", "of(8, 0) = 0", "of(9, 0) = BEYOND", "fed(9) = BEYOND", "hold(0, 9) = BEYOND",
        "change(9, 0, 1) = BEYOND", "home(9) = BEYOND", "when(9) = BEYOND", "worth(9) = BEYOND",
        "kindFor(9, 1) = BEYOND", "plan(511, 1) = 0", "plan(512, 1) = BEYOND", "room(512) = BEYOND", "thing(6) = 9",
        "thing(0) = FULL", "count(1) = 10");
    Rows.after(Hens.and(nine, "thing(4)"), "ten things", "thing(0) = FULL", "thing(6) = FULL", "of(9, 0) = 4",
        "of(10, 0) = BEYOND", "change(9, 2, 99) = 10", "change(10, 2, 99) = BEYOND", "hold(0, 9) = 1",
        "hold(0, 10) = BEYOND", "kindFor(9, 1) = 1", "kindFor(10, 1) = BEYOND", "when(9) = STATE", "when(10) = BEYOND",
        "home(9) = STATE", "home(10) = BEYOND", "fed(10) = BEYOND", "fed(9) = 1", "when(9) = 5", "worth(9) = 104",
        "plan(511, 1) = 0", "plan(1023, 1) = STATE", "plan(1024, 1) = BEYOND", "count(4) = 189");
    Rows.after(Hens.and(nine, "image()", "thing(4)", "thing(4)"), "nine things again", "undo() = 0", "count(1) = 9",
        "of(9, 0) = BEYOND", "thing(5) = 9", "of(9, 0) = 5", "of(9, 2) = 10", "thing(5) = FULL");
  }

  private static void terms1Bulk() {
    Rows.after(Hens.sated(0), "bulk", "of(0, 1) = 2", "change(0, 1, 0) = BEYOND", "of(0, 1) = 2", "change(0, 1, 1) = 2",
        "change(0, 1, 9) = 1", "change(0, 1, 10) = BEYOND", "of(0, 1) = 9", "fed(0) = 1", "now(2) = 9",
        "change(0, 1, 1) = 9", "now(2) = 1");
  }

  private static void terms1Worth() {
    Rows.after(Hens.sated(0), "worth", "of(0, 2) = 10", "change(0, 2, -1) = BEYOND", "of(0, 2) = 10",
        "change(0, 2, 0) = 10", "of(0, 9) = 0", "change(0, 2, 99) = 0", "change(0, 2, 100) = BEYOND", "of(0, 9) = 99",
        "count(4) = 99");
  }

  private static void terms1Owner() {
    Rows.after(Hens.sated(1), "owner", "of(0, 3) = 0", "change(0, 3, -1) = BEYOND", "change(0, 3, 2) = BEYOND",
        "of(0, 3) = 0", "change(0, 3, 1) = 0", "fed(0) = 1", "share(0, 1) = 0", "share(1, 1) = 5", "days(1) = 5",
        "laid(0) = 0", "laid(1) = 1", "change(0, 3, 0) = 1", "laid(0) = 1", "laid(1) = 0");
  }

  private static void terms1EightIn() {
    List<String> seven = Hens.and(Hens.sated(0, 0, 0, 0, 0, 0, 0, 0, 0, 0), "rule(0, 40)", "fed(9)", "fed(1)", "fed(2)",
        "fed(3)", "fed(4)", "fed(5)", "fed(6)");
    Rows.after(seven, "seven in", "now(1) = 7", "crop(6) = 6", "crop(7) = NONE", "kindFor(7, 60) = 4",
        "fed(7) = 8", "crop(0) = 9", "crop(7) = 7", "crop(8) = BEYOND", "fed(8) = FULL", "fed(0) = FULL",
        "kindFor(8, 60) = FULL", "next(60) = -1", "now(1) = 8", "now(2) = 16", "of(8, 4) = 0");
    Rows.after(Hens.and(seven, "fed(7)", "days(3)"), "one of eight is laid", "now(1) = 7", "crop(7) = NONE",
        "fed(0) = 8", "crop(7) = 0", "fed(8) = FULL");
  }

  private static void terms1RoomToItsLastBulk() {
    List<String> three = Hens.and(Hens.sated(0, 0, 0), "change(0, 1, 9)", "change(1, 1, 3)", "change(2, 1, 1)");
    Rows.after(three, "room 12", "fed(0) = 1", "fed(1) = 2", "now(2) = 12", "fed(2) = FULL", "kindFor(2, 1) = FULL",
        "rule(0, 13) = 12", "kindFor(2, 1) = 0", "fed(2) = 3", "now(2) = 13");
    Rows.after(Hens.and(three, "change(1, 1, 4)"), "room 12, one too many", "fed(0) = 1", "fed(1) = FULL", "now(2) = 9",
        "fed(2) = 2", "now(2) = 10");
    Rows.after(Hens.and(three, "rule(0, 1)"), "the least room", "fed(0) = FULL", "fed(1) = FULL", "fed(2) = 1");
    Rows.after(Hens.and(three, "rule(0, 8)"), "room 8", "fed(0) = FULL", "rule(0, 9) = 8", "fed(0) = 1",
        "fed(2) = FULL");
    List<String> five = Hens.and(Hens.sated(0, 0, 0, 0, 0, 0), "rule(0, 40)");
    for (int t = 0; t < 5; t++) {
      five = Hens.and(five, "change(" + t + ", 1, " + (t < 4 ? 9 : 4) + ")", "fed(" + t + ")");
    }
    Rows.after(Hens.and(five, "change(5, 1, 1)"), "the most room", "now(1) = 5", "now(2) = 40", "fed(5) = FULL");
  }

  /** ROOM and BULK may be changed so that more is IN than there would be room for; it stays IN. */
  private static void terms1RoomBelowWhatIsIn() {
    Rows.after(Hens.and(Hens.sated(0, 0, 1), "fed(0)", "fed(1)", "change(2, 1, 1)"), "room below", "rule(0, 1) = 12",
        "now(1) = 2", "now(2) = 4", "fed(2) = FULL", "next(60) = -1", "rule(0, 5) = 1", "fed(2) = 3");
    Rows.after(Hens.and(Hens.sated(0, 0), "fed(0)", "rule(0, 2)"), "bulk above", "change(0, 1, 9) = 2", "now(2) = 9",
        "fed(1) = FULL", "days(3) = 10", "fed(1) = 1");
  }

  private static void terms1Takes() {
    int[] takes = {3, 1, 4, 4, 5, 5, 3};
    int[] worth = {10, 5, 10, 10, 15, 5, 10};
    for (int kind = 0; kind <= 6; kind++) {
      List<String> one = Hens.and(Hens.sated(kind), "fed(0)");
      String early = "days(" + Math.max(1, takes[kind] - 1) + ")";
      Rows.after(one, "kind " + kind + " takes", "of(0, 7) = " + takes[kind], "when(0) = " + takes[kind],
          "ahead(" + (takes[kind] - 1) + ", 0) = 0", "ahead(" + takes[kind] + ", 0) = 1",
          early + " = " + (takes[kind] == 1 ? 5 : 0), "now(1) = " + (takes[kind] == 1 ? 0 : 1));
      if (takes[kind] > 1) {
        Rows.after(Hens.and(one, early), "kind " + kind + " on its day", "of(0, 5) = " + (takes[kind] - 1),
            "when(0) = 1", "egg(0, 0) = NONE", "days(1) = " + worth[kind], "egg(0, 2) = " + (takes[kind] - 1),
            "of(0, 4) = 2");
      }
    }
  }

  /** Between a RING, which is LAID later, and each other KIND. */
  private static void terms1Stains() {
    int[] stains = {1, 0, 2, 1, 1, 2, 4};
    for (int one = 0; one <= 6; one++) {
      for (int other = 0; other <= 6; other++) {
        List<String> three = Hens.and(Hens.sated(4, one, other), "fed(0)", "fed(1)", "fed(2)", "days(1)");
        Rows.after(three, "kinds " + one + " and " + other, "of(1, 8) = " + stains[one], "of(0, 6) = " + stains[one],
            "of(1, 6) = " + (1 + stains[other]), "of(2, 6) = " + stains[one]);
      }
    }
    Rows.after(Hens.and(Hens.sated(6, 0, 6), "fed(0)", "fed(1)", "days(1)", "fed(2)", "days(1)"),
        "only while it is there", "of(0, 6) = 2", "of(1, 6) = 12", "of(2, 6) = 1");
    Rows.after(Hens.and(Hens.sated(6), "fed(0)", "days(2)"), "none is beside it", "of(0, 6) = 0", "of(0, 9) = 10");
  }

  /** Behind a RING a THING has one more of STAIN each DAY, for four DAYS. */
  private static void left(int kind, int worth, int... due) {
    FedHen x = Rows.make(Hens.and(Hens.sated(4, kind), "change(1, 2, " + worth + ")", "fed(0)", "fed(1)"));
    for (int stain = 0; stain <= 4; stain++) {
      Rows.due("kind " + kind + " worth " + worth, x, "of(1, 6) = " + stain, "of(1, 9) = " + due[stain]);
      x.days(1);
    }
  }

  private static void terms1LeftAtLeastNone() {
    left(Check.THING, 3, 3, 2, 1, 0, 0);
    left(Check.THING, 0, 0, 0, 0, 0, 0);
    left(Check.THING, 99, 99, 98, 97, 96, 95);
    left(Check.METAL, 3, 3, 2, 1, 0, 0);
    left(Check.METAL, 2, 2, 1, 0, 0, 0);
    left(Check.GOLD, 1, 1, 1, 0, 0, 0);
    left(Check.GOLD, 2, 2, 2, 1, 1, 0);
    left(Check.GOLD, 0, 0, 0, 0, 0, 0);
    left(Check.RING, 0, 5, 5, 5, 5, 5);
    left(Check.RING, 1, 6, 6, 5, 5, 5);
    left(Check.RING, 99, 104, 104, 103, 103, 102);
    left(Check.DEED, 99, 99, 0, 0, 0, 0);
    left(Check.DEED, 0, 0, 0, 0, 0, 0);
  }

  private static void terms1QuotientsAreCut() {
    left(Check.CORN, 0, 0, 0, 0, 0, 0);
    left(Check.CORN, 1, 0, 0, 0, 0, 0);
    left(Check.CORN, 2, 1, 1, 1, 1, 1);
    left(Check.CORN, 99, 49, 49, 49, 49, 49);
    left(Check.SAND, 1, 0, 0, 0, 0, 0);
    left(Check.SAND, 3, 1, 1, 1, 1, 1);
    left(Check.SAND, 99, 49, 49, 49, 49, 49);
  }

  private static void promise1New() {
    Rows.after(List.of(), "new", "now(5) = 12", "now(6) = 2", "count(6) = 1", "wipe() = 0", "text() = -1",
        "undo() = NONE", "tear() = 0", "load(0) = MISSING", "load(3) = MISSING", "judge(0) = MISSING",
        "judge(3) = MISSING", "copy(0, 0, 3, 0, 0) = MISSING", "as(9, 0) = MISSING", "count(7) = 0", "status(-1) = 7",
        "status(3) = 1", "status(5) = 6", "status(4) = 0", "days(60) = 0", "starves(1) = 9");
    Rows.after(List.of("thing(0)"), "new: hollow below 2", "fed(0) = 1", "change(0, 1, 1) = 2", "days(3) = 0",
        "now(4) = 1");
  }

  private static void promise2Thing() {
    Rows.after(List.of(), "thing", "thing(-1) = BEYOND", "count(1) = 0", "thing(0) = 0", "thing(6) = 1",
        "thing(7) = BEYOND", "of(1, 0) = 6", "of(1, 4) = 0", "of(1, 5) = 0", "of(1, 6) = 0", "count(1) = 2");
    Rows.after(Hens.sated(0, 0, 0, 0, 0, 0, 0, 0, 0, 0), "BEYOND ahead of FULL", "thing(-1) = BEYOND",
        "thing(7) = BEYOND", "thing(MIN) = BEYOND", "thing(MAX) = BEYOND", "thing(0) = FULL", "status(0) = 4",
        "status(1) = 1");
  }

  private static void promise3Of() {
    Rows.after(Hens.and(Hens.sated(0, 6), "fed(0)", "fed(1)", "days(2)"), "of", "of(0, 0) = 0", "of(0, 9) = 2",
        "of(0, 10) = BEYOND", "of(0, -1) = BEYOND", "of(-1, 0) = BEYOND", "of(2, 0) = BEYOND", "of(1, 9) = 0",
        "of(0, 5) = 2", "of(0, 6) = 8", "days(1) = 0", "of(0, 4) = 2", "of(0, 5) = 0", "of(0, 6) = 0", "of(0, 9) = 10",
        "home(0) = 0", "of(0, 4) = 0", "of(0, 5) = 0", "of(0, 6) = 0", "fed(0) = 2", "of(0, 5) = 0", "of(0, 6) = 0",
        "of(1, 5) = 3", "of(1, 6) = 3");
  }

  private static void promise4Change() {
    Rows.after(Hens.sated(0, 0), "change", "change(1, 0, 6) = 0", "change(1, 0, 7) = BEYOND",
        "change(1, 0, -1) = BEYOND", "change(1, 0, 0) = 6", "change(1, -1, 1) = BEYOND", "change(1, 4, 1) = BEYOND",
        "change(2, 0, 0) = BEYOND", "change(-1, 0, 0) = BEYOND", "change(1, 3, 1) = 0", "change(1, 3, 1) = 1",
        "of(0, 3) = 0");
    Rows.after(Hens.and(Hens.sated(4, 6), "fed(0)", "fed(1)", "days(2)"), "change of what is IN", "change(0, 0, 1) = 4",
        "of(0, 5) = 2", "of(0, 6) = 8", "of(0, 7) = 1", "crop(0) = 0", "days(1) = 5", "change(0, 0, 6) = 1",
        "of(0, 4) = 2", "of(0, 9) = 10");
  }

  private static void promise5Rule() {
    Rows.after(List.of(), "rule", "rule(0, 0) = BEYOND", "rule(0, 1) = 12", "rule(0, 40) = 1", "rule(0, 41) = BEYOND",
        "now(5) = 40", "rule(1, -1) = BEYOND", "rule(1, 0) = 2", "rule(1, 9) = 0", "rule(1, 10) = BEYOND",
        "now(6) = 9", "rule(-1, 5) = BEYOND", "rule(2, 5) = BEYOND", "now(5) = 40", "now(6) = 9");
  }

  private static void promise6Fed() {
    Rows.after(Hens.and(Hens.sated(1, 0, 0), "rule(0, 3)"), "fed", "fed(-1) = BEYOND", "fed(3) = BEYOND", "fed(0) = 1",
        "fed(0) = STATE", "fed(1) = FULL", "days(1) = 5", "fed(0) = STATE", "fed(1) = 1", "fed(1) = STATE",
        "fed(2) = FULL", "home(0) = 5", "fed(0) = FULL", "days(3) = 10", "fed(0) = 1", "crop(0) = 0");
  }

  private static void promise7Home() {
    Rows.after(Hens.and(Hens.sated(1, 0), "fed(0)", "days(1)"), "home", "home(-1) = BEYOND", "home(2) = BEYOND",
        "home(1) = STATE", "home(0) = 5", "home(0) = STATE", "fed(0) = 1", "home(0) = STATE");
    Rows.after(Hens.and(Hens.sated(1), "rule(1, 3)", "fed(0)", "days(1)"), "home of a hollow one", "home(0) = 0");
    List<String> calls = Hens.and(Hens.sated(0, 1), "fed(0)", "days(3)");
    for (int i = 0; i < 11; i++) {
      calls = Hens.and(calls, "fed(1)", "days(1)", "home(1)");
    }
    Rows.after(calls, "home by the 12th egg", "egg(11, 0) = 0", "home(0) = 10", "of(0, 4) = 0");
    Rows.after(Hens.and(calls, "fed(1)", "days(1)"), "home by the 13th egg", "egg(11, 0) = 1", "home(0) = -1",
        "of(0, 4) = 0", "fed(0) = 1", "days(3) = 10", "home(0) = 10");
  }

  private static void promise8Crop() {
    Rows.after(Hens.sated(0, 0), "crop", "crop(-1) = BEYOND", "crop(0) = NONE", "crop(7) = NONE", "crop(8) = BEYOND",
        "fed(1) = 1", "crop(0) = 1", "crop(1) = NONE", "fed(0) = 2", "crop(1) = 0", "crop(2) = NONE", "days(3) = 7",
        "crop(0) = 0", "crop(1) = NONE", "days(1) = 7", "crop(0) = NONE");
  }

  private static void promise9Egg() {
    List<String> calls = Hens.sated(1);
    for (int i = 0; i < 11; i++) {
      calls = Hens.and(calls, "change(0, 2, " + 2 * i + ")", "fed(0)", "days(1)", "home(0)");
    }
    Rows.after(calls, "11 eggs", "now(3) = 11", "egg(0, 1) = 10", "egg(10, 1) = 0", "egg(10, 2) = 0",
        "egg(11, 1) = NONE", "egg(12, 1) = NONE", "egg(-1, 1) = BEYOND", "egg(0, 3) = BEYOND", "egg(0, -1) = BEYOND",
        "egg(11, 3) = BEYOND", "egg(MAX, 0) = NONE", "egg(MAX, 3) = BEYOND", "egg(MIN, 0) = BEYOND");
    calls = Hens.and(calls, "change(0, 2, 50)", "fed(0)", "days(1)", "home(0)");
    Rows.after(calls, "12 eggs", "now(3) = 12", "egg(0, 1) = 25", "egg(11, 1) = 0", "egg(11, 2) = 0",
        "egg(12, 1) = NONE");
    calls = Hens.and(calls, "change(0, 2, 60)", "fed(0)", "days(1)", "home(0)");
    Rows.after(calls, "13 eggs", "now(3) = 13", "egg(0, 1) = 30", "egg(1, 1) = 25", "egg(11, 1) = 1", "egg(11, 2) = 1",
        "egg(12, 1) = NONE", "count(3) = 13");
  }
}
