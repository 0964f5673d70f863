import java.util.List;

/** The bounds that the Terms' 2. A DAY and promises 10 to 15 name, from both sides. */
public final class DayEdgesTest {
  public static void main(String[] args) {
    terms2LastDay();
    terms2LastDayOfLooks();
    terms2SixtyDaysBeforeTheLast();
    terms2Hollow();
    terms2OneADay();
    terms2AsManyDaysOrMore();
    terms2HighStain();
    terms2TwelveEggs();
    terms2Ahead();
    promise10Days();
    promise11Now();
    promise12Ahead();
    promise13And14When();
    promise15Spoils();
    Check.end();
  }

  private static void terms2LastDay() {
    Rows.after(Rows.at(9998, "rule(1, 0)", "thing(1)", "thing(1)", "fed(0)"), "day 9998", "now(0) = 9998",
        "days(2) = STATE", "now(0) = 9998", "now(1) = 1", "lent(2) = STATE", "count(6) = 1", "days(1) = 5",
        "now(0) = 9999", "egg(0, 2) = 9998", "days(1) = STATE", "lent(1) = STATE", "days(0) = BEYOND",
        "lent(0) = BEYOND", "fed(1) = 1", "home(0) = 5", "fed(0) = 2", "now(0) = 9999", "count(0) = 9999",
        "image() = 1", "undo() = 9999");
    Rows.after(Rows.at(9939), "60 days to the last", "days(60) = 0", "now(0) = 9999");
    Rows.after(Rows.at(9940), "60 days are too many", "days(60) = STATE", "days(59) = 0", "now(0) = 9999");
    Rows.after(Rows.at(9987, "thing(0)"), "12 days to the last", "lent(12) = 10", "now(0) = 9999");
    Rows.after(Rows.at(9988, "thing(0)"), "12 days are too many", "lent(12) = STATE", "now(0) = 9988", "lent(11) = 10",
        "now(0) = 9999");
  }

  /** Looks of 9 DAYS go on DAY 9990, those of 10 DAYS don't; none of 1 goes on DAY 9999. */
  private static void terms2LastDayOfLooks() {
    List<String> ten = Rows.at(9990, "thing(0)", "sheet(0, 8, 9)", "sheet(1, 8, 10)");
    Rows.after(ten, "9 days to the last", "ahead(9, 0) = 0", "plan(1, 9) = 10", "best(1, 9) = 10", "ith(1, 9, 0) = 0",
        "next(9) = 0", "foes(9) = NONE", "kindFor(0, 9) = 4", "rid(9) = 0", "turns(1, 9) = 10", "turns(4, 9) = 10",
        "first(1, 9) = 0", "share(0, 9) = 0", "fits(0, 9) = 0", "may(0, 9) = 0", "starves(9) = 9", "judge(0) = 1",
        "now(0) = 9990", "days(9) = 0");
    Rows.after(ten, "10 days are too many", "ahead(10, 0) = STATE", "plan(1, 10) = STATE", "best(1, 10) = STATE",
        "ith(1, 10, 0) = STATE", "next(10) = STATE", "foes(10) = STATE", "kindFor(0, 10) = STATE", "rid(10) = STATE",
        "turns(1, 10) = STATE", "turns(4, 10) = STATE", "first(1, 10) = STATE", "share(0, 10) = STATE",
        "fits(0, 10) = STATE", "may(0, 10) = STATE", "starves(10) = STATE", "judge(1) = STATE", "room(1) = STATE",
        "days(10) = STATE", "lent(10) = STATE", "now(0) = 9990", "status(4) = 19", "status(-1) = 19");
    List<String> last = Rows.at(9999, "thing(0)", "sheet(0, 8, 1)", "sheet(1, 8, 0)");
    Rows.after(last, "on the last day", "ahead(0, 2) = 0", "share(0, 0) = 0", "judge(1) = 0", "ahead(1, 2) = STATE",
        "share(0, 1) = STATE", "judge(0) = STATE", "plan(1, 1) = STATE", "plan(0, 1) = STATE", "best(0, 1) = STATE",
        "next(1) = STATE", "foes(1) = STATE", "kindFor(0, 1) = STATE", "rid(1) = STATE", "turns(1, 1) = STATE",
        "first(1, 1) = STATE", "fits(0, 1) = STATE", "may(0, 1) = STATE", "starves(1) = STATE", "room(0) = STATE",
        "spoils() = STATE", "days(1) = STATE", "lent(1) = STATE", "fed(0) = 1", "when(0) = STATE", "worth(0) = STATE",
        "ahead(0, 2) = 1", "ahead(0, 4) = 0");
  }

  private static void terms2SixtyDaysBeforeTheLast() {
    List<String> goes = Rows.at(9939, "thing(0)", "thing(6)", "thing(6)", "fed(0)", "fed(1)", "sheet(0, 8, 40)");
    Rows.after(goes, "day 9939", "when(0) = 3", "worth(0) = 0", "when(1) = 4", "spoils() = 3", "ahead(60, 0) = 2",
        "plan(4, 60) = 0", "share(0, 60) = 0", "turns(4, 60) = 0", "rid(60) = 1", "starves(60) = 2", "when(2) = STATE",
        "room(4) = 6", "now(0) = 9939");
    List<String> late = Rows.at(9940, "thing(0)", "thing(6)", "thing(6)", "fed(0)", "fed(1)");
    Rows.after(late, "day 9940", "when(0) = STATE", "worth(0) = STATE", "spoils() = STATE", "ahead(60, 0) = STATE",
        "plan(4, 60) = STATE", "share(0, 60) = STATE", "turns(4, 60) = STATE", "rid(60) = STATE", "starves(60) = STATE",
        "ahead(59, 0) = 2", "plan(4, 59) = 0", "when(3) = BEYOND", "worth(-1) = BEYOND", "room(4) = 6");
    Rows.after(Rows.at(9959, "sheet(0, 8, 40)"), "a sheet of 40 on day 9959", "judge(0) = 1");
    Rows.after(Rows.at(9960, "sheet(0, 8, 40)", "sheet(1, 8, 39)"), "a sheet of 40 on day 9960", "judge(0) = STATE",
        "judge(1) = 1");
    Rows.after(Rows.at(9989, "thing(0)"), "room on day 9989", "room(1) = 2", "room(0) = 1", "room(2) = BEYOND");
    Rows.after(Rows.at(9990, "thing(0)"), "room on day 9990", "room(1) = STATE", "room(0) = STATE", "room(2) = BEYOND");
  }

  /** The BULK of all that is IN, the FRONT too, against HUNGER. */
  private static void terms2Hollow() {
    for (int bulk = 1; bulk <= 9; bulk++) {
      List<String> one = List.of("thing(0)", "change(0, 1, " + bulk + ")", "fed(0)");
      for (int hunger = 0; hunger <= 9; hunger++) {
        boolean hollow = bulk < hunger;
        Rows.after(Hens.and(one, "rule(1, " + hunger + ")"), "bulk " + bulk + ", hunger " + hunger,
            "worth(0) = " + (hollow ? 0 : 10), "days(3) = " + (hollow ? 0 : 10), "now(3) = 1",
            "now(4) = " + (hollow ? 1 : 0), "egg(0, 0) = 0", "egg(0, 1) = " + (hollow ? 0 : 10));
      }
    }
    List<String> two = List.of("thing(0)", "thing(1)", "change(0, 1, 1)", "change(1, 1, 1)", "fed(0)", "fed(1)");
    Rows.after(two, "the other one counts too", "days(3) = 10", "now(4) = 0", "days(1) = 0", "now(4) = 1", "now(3) = 2",
        "egg(1, 1) = 10", "egg(0, 1) = 0", "laid(0) = 3", "home(0) = 10", "home(1) = 0");
    Rows.after(Hens.and(two, "rule(1, 3)"), "both hollow", "ahead(60, 0) = 2", "ahead(60, 1) = 0", "days(60) = 0",
        "now(4) = 2");
  }

  private static void terms2OneADay() {
    List<String> eight = Hens.sated(1, 1, 1, 1, 1, 1, 1, 1);
    eight.add("rule(0, 40)");
    for (int t = 0; t < 8; t++) {
      eight.add("fed(" + t + ")");
    }
    for (int n = 1; n <= 9; n++) {
      Rows.after(eight, "one a day", "ahead(" + n + ", 0) = " + Math.min(8, n), "days(" + n + ") = " + 5 * Math.min(8,
          n), "now(3) = " + Math.min(8, n), "now(1) = " + Math.max(0, 8 - n), "egg(0, 2) = " + Math.min(7, n - 1));
    }
    Rows.after(Hens.and(eight, "days(7)"), "the last of eight", "when(7) = 1", "of(7, 5) = 7", "days(2) = 5",
        "days(1) = 0");
  }

  private static void terms2AsManyDaysOrMore() {
    Rows.after(Hens.and(Hens.sated(4, 0), "fed(0)", "fed(1)", "days(5)"), "more days, for one is ahead", "now(3) = 1",
        "of(1, 5) = 5", "of(1, 7) = 3", "when(1) = 1", "days(1) = 5");
    Rows.after(Hens.and(Hens.sated(4), "fed(0)", "days(3)"), "a kind that takes as many", "change(0, 0, 2) = 4",
        "days(1) = 10");
    Rows.after(Hens.and(Hens.sated(4), "fed(0)", "days(3)"), "a kind that takes less", "change(0, 0, 1) = 4",
        "days(1) = 5");
    Rows.after(Hens.and(Hens.sated(0), "fed(0)", "days(2)"), "a kind that takes more", "change(0, 0, 2) = 0",
        "days(1) = 0", "of(0, 5) = 3", "days(1) = 10");
    Rows.after(Hens.and(Hens.sated(4, 1), "fed(0)", "fed(1)", "days(4)"), "the front one waits: none is laid",
        "now(3) = 0", "of(1, 5) = 4", "days(1) = 15", "days(1) = 5");
  }

  /** No STAIN can come higher: the seventh of eight, between DEEDS for ten DAYS, and one more behind its turn. */
  private static void terms2HighStain() {
    List<String> eight = Hens.sated(4, 4, 4, 4, 4, 6, 0, 6);
    eight.add("rule(0, 40)");
    eight.add("change(6, 2, 99)");
    for (int t = 0; t < 8; t++) {
      eight.add("fed(" + t + ")");
    }
    Rows.after(eight, "high stain", "when(6) = 11", "worth(6) = 15", "days(10) = 45", "of(6, 6) = 80", "of(6, 9) = 19",
        "days(1) = 15", "egg(0, 0) = 6", "egg(0, 1) = 15");
    Rows.after(Hens.and(eight, "change(6, 0, 3)"), "high stain, gold", "worth(6) = 57");
    Rows.after(Hens.and(eight, "change(6, 2, 84)"), "high stain, all is lost", "worth(6) = 0", "change(6, 2, 85) = 84",
        "worth(6) = 1", "change(6, 2, 83) = 85", "worth(6) = 0");
  }

  private static void terms2TwelveEggs() {
    List<String> calls = Hens.sated(1);
    for (int i = 0; i < 20; i++) {
      calls = Hens.and(calls, "change(0, 2, " + 2 * i + ")", "fed(0)", "days(1)", "home(0)");
    }
    FedHen x = Rows.make(calls);
    for (int i = 0; i < 12; i++) {
      Rows.due("20 eggs", x, "egg(" + i + ", 0) = 0", "egg(" + i + ", 1) = " + (19 - i),
          "egg(" + i + ", 2) = " + (19 - i));
    }
    Rows.due("20 eggs", x, "egg(12, 0) = NONE", "egg(12, 1) = NONE", "egg(12, 2) = NONE", "now(3) = 20", "now(4) = 0");
  }

  private static void terms2Ahead() {
    Rows.after(Hens.and(Hens.sated(4, 0), "fed(0)", "days(2)"), "ahead, nothing being fed", "ahead(0, 0) = 0",
        "ahead(0, 1) = 0", "ahead(0, 2) = 1", "ahead(0, 4) = 0", "ahead(3, 1) = 15", "ahead(60, 1) = 15", "now(0) = 2",
        "now(3) = 0", "of(0, 5) = 2", "of(1, 4) = 0", "egg(0, 0) = NONE", "laid(0) = 0", "count(0) = 2");
  }

  private static void promise10Days() {
    Rows.after(Hens.and(Hens.sated(0, 0), "fed(0)", "fed(1)"), "days", "days(-1) = BEYOND", "days(0) = BEYOND",
        "days(61) = BEYOND", "now(0) = 0", "of(0, 5) = 0", "days(1) = 0", "days(2) = 7", "days(60) = 7", "now(0) = 63");
    Rows.after(Rows.at(9999), "BEYOND ahead of STATE", "days(61) = BEYOND", "days(0) = BEYOND", "days(60) = STATE");
  }

  private static void promise11Now() {
    Rows.after(Hens.and(Hens.sated(1, 0), "fed(0)", "days(1)", "fed(1)"), "now", "now(-1) = BEYOND", "now(0) = 1",
        "now(1) = 1", "now(2) = 2", "now(3) = 1", "now(4) = 0", "now(5) = 12", "now(6) = 0", "now(7) = BEYOND",
        "status(0) = 2");
  }

  private static void promise12Ahead() {
    List<String> two = Hens.and(Hens.sated(0, 0), "fed(1)", "fed(0)", "days(1)");
    Rows.after(two, "ahead", "ahead(-1, 0) = BEYOND", "ahead(0, -1) = BEYOND", "ahead(0, 5) = BEYOND",
        "ahead(61, 0) = BEYOND", "ahead(0, 0) = 0", "ahead(0, 1) = 0", "ahead(0, 2) = 2", "ahead(0, 3) = 2",
        "ahead(0, 4) = 1", "ahead(2, 0) = 1", "ahead(2, 1) = 7", "ahead(2, 2) = 1", "ahead(2, 3) = 3",
        "ahead(2, 4) = 0", "ahead(3, 4) = -1", "ahead(3, 3) = 0", "ahead(60, 0) = 2", "ahead(60, 1) = 14",
        "ahead(60, 2) = 0");
    Rows.after(Rows.at(9999), "BEYOND ahead of STATE", "ahead(1, 5) = BEYOND", "ahead(61, 0) = BEYOND",
        "ahead(60, 0) = STATE");
  }

  /** Of eight RINGS the last one comes behind 12 DAYS. */
  private static void promise13And14When() {
    List<String> eight = Hens.sated(4, 4, 4, 4, 4, 4, 4, 4, 4);
    eight.add("rule(0, 40)");
    for (int t = 0; t < 8; t++) {
      eight.add("fed(" + t + ")");
    }
    Rows.after(eight, "eight rings", "when(0) = 5", "worth(0) = 13", "when(7) = 12", "worth(7) = 10", "when(8) = STATE",
        "worth(8) = STATE", "when(9) = BEYOND", "worth(9) = BEYOND", "when(-1) = BEYOND", "worth(-1) = BEYOND",
        "days(4) = 0", "when(0) = 1", "days(1) = 13", "when(0) = STATE", "worth(0) = STATE", "when(1) = 1",
        "status(4) = 4");
    Rows.after(Rows.at(9940, "thing(0)", "thing(0)", "fed(0)"), "BEYOND ahead of STATE", "when(2) = BEYOND",
        "worth(2) = BEYOND", "when(1) = STATE", "worth(1) = STATE", "when(0) = STATE", "worth(0) = STATE");
  }

  private static void promise15Spoils() {
    Rows.after(Hens.and(Hens.sated(0), "fed(0)"), "as much as its worth", "spoils() = NONE", "change(0, 0, 4) = 0",
        "spoils() = NONE", "change(0, 0, 1) = 4", "spoils() = 1", "change(0, 2, 1) = 10", "spoils() = 1",
        "change(0, 2, 0) = 1", "spoils() = NONE");
    Rows.after(Hens.and(Hens.sated(4, 0), "change(0, 2, 20)", "fed(0)", "fed(1)"), "a ring as much, then one less",
        "worth(0) = 23", "spoils() = 6", "change(1, 0, 6) = 0", "worth(0) = 15", "spoils() = 5");
    Rows.after(Hens.and(Hens.sated(4, 2), "fed(0)", "fed(1)"), "one of stain 10", "worth(0) = 10", "spoils() = 6",
        "change(1, 2, 0) = 10", "spoils() = NONE");
    Rows.after(List.of("thing(0)", "fed(0)", "rule(1, 3)"), "hollow", "spoils() = 3", "change(0, 2, 0) = 10",
        "spoils() = NONE");
    List<String> eight = Hens.sated(4, 4, 4, 4, 4, 4, 4, 5);
    eight.add("rule(0, 40)");
    for (int t = 0; t < 8; t++) {
      eight.add("fed(" + t + ")");
    }
    Rows.after(Hens.and(eight, "change(7, 2, 1)"), "the third of eight is the first", "change(0, 2, 0) = 10",
        "spoils() = 7");
  }
}
