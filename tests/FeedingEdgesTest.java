import java.util.List;

/** The bounds that the Terms' FEEDING and promises 16 to 22 name, from both sides. */
public final class FeedingEdgesTest {
  public static void main(String[] args) {
    termsAsManyAsDays();
    termsNoRoomForOne();
    termsEightAreIn();
    promise16Plan();
    promise17Best();
    promise18Ith();
    promise19Next();
    promise20Foes();
    promise21KindFor();
    promise22Rid();
    Check.end();
  }

  /** CORN 0 to 9: each is LAID on the DAY on which it is fed, THING t for 5 times t. */
  private static List<String> tenCorns() {
    List<String> calls = Hens.sated(1, 1, 1, 1, 1, 1, 1, 1, 1, 1);
    for (int t = 0; t < 10; t++) {
      calls.add("change(" + t + ", 2, " + 10 * t + ")");
    }
    return calls;
  }

  private static void termsAsManyAsDays() {
    Rows.after(tenCorns(), "as many as there are days", "plan(1023, 1) = 0", "plan(1023, 2) = 5", "plan(1023, 9) = 180",
        "plan(1023, 10) = 225", "plan(1023, 11) = 225", "plan(1023, 60) = 225", "plan(512, 1) = 45",
        "plan(768, 1) = 40", "plan(768, 2) = 85", "now(0) = 0", "now(1) = 0", "now(3) = 0");
    Rows.after(Hens.and(Hens.sated(4, 1), "fed(0)"), "fed behind one that is in", "plan(2, 4) = 0", "plan(2, 5) = 15",
        "plan(2, 6) = 20");
  }

  /** Three THINGS of BULK 2: the third one stains the second one, if there is ROOM 6. */
  private static void termsNoRoomForOne() {
    List<String> three = Hens.sated(0, 0, 0);
    Rows.after(Hens.and(three, "rule(0, 6)"), "room for three", "plan(7, 60) = 22", "plan(7, 3) = 8",
        "plan(7, 4) = 14");
    Rows.after(Hens.and(three, "rule(0, 5)"), "room for two and a half", "plan(7, 60) = 16");
    Rows.after(Hens.and(three, "rule(0, 4)"), "room for two", "plan(7, 60) = 16", "plan(6, 60) = 16",
        "plan(5, 60) = 16");
    Rows.after(Hens.and(three, "rule(0, 3)"), "room for one and a half", "plan(7, 60) = 10");
    Rows.after(Hens.and(three, "rule(0, 1)"), "room for none", "plan(7, 60) = 0", "best(7, 60) = 0",
        "ith(7, 60, 0) = 0", "ith(7, 60, 2) = 2", "next(60) = -1", "foes(60) = 1", "turns(4, 60) = 0",
        "first(4, 60) = -1", "fits(0, 60) = 0", "may(0, 60) = 0");
    Rows.after(Hens.and(Hens.sated(0, 0, 1), "change(1, 1, 3)", "rule(0, 4)"), "its day goes without",
        "plan(7, 3) = 10", "plan(7, 4) = 15", "plan(6, 1) = 0", "plan(6, 2) = 0", "plan(6, 3) = 10");
  }

  private static void termsEightAreIn() {
    List<String> eight = Hens.sated(1, 0, 0, 0, 0, 0, 0, 0, 1, 1);
    eight.add("rule(0, 40)");
    for (int t = 1; t < 8; t++) {
      eight.add("fed(" + t + ")");
    }
    Rows.after(eight, "the eighth one is fed", "ahead(60, 1) = 13", "plan(1, 60) = 18", "plan(257, 60) = 18",
        "kindFor(8, 60) = 4", "next(60) = 0");
    Rows.after(Hens.and(eight, "fed(0)"), "the ninth one isn't", "ahead(60, 1) = 18", "plan(256, 60) = 18",
        "plan(768, 60) = 18", "kindFor(8, 60) = FULL", "next(60) = -1", "best(768, 60) = 18", "ith(768, 60, 0) = 8",
        "turns(2, 60) = 18", "first(2, 60) = -1");
    Rows.after(Hens.and(eight, "fed(0)", "days(3)"), "one is laid: the next one is fed", "plan(256, 60) = 16",
        "kindFor(8, 60) = 4", "next(60) = 8");
  }

  private static void promise16Plan() {
    Rows.after(tenCorns(), "plan", "plan(1, -1) = BEYOND", "plan(1, 0) = BEYOND", "plan(1, 61) = BEYOND",
        "plan(2, 1) = 5", "plan(2, 60) = 5", "plan(0, 1) = 0", "plan(1024, 1) = BEYOND", "plan(-1, 1) = BEYOND",
        "plan(MIN, 1) = BEYOND", "plan(MAX, 1) = BEYOND", "plan(512, 1) = 45", "fed(9) = 1", "plan(512, 1) = STATE",
        "plan(1023, 1) = STATE", "plan(1536, 1) = BEYOND", "plan(512, 0) = BEYOND", "plan(256, 1) = 45",
        "plan(256, 2) = 85", "days(1) = 45", "plan(512, 1) = STATE", "home(9) = 45", "plan(512, 1) = 45");
    Rows.after(Hens.sated(1, 1, 1), "plan of three things", "plan(7, 60) = 15", "plan(8, 60) = BEYOND",
        "plan(-8, 60) = BEYOND", "plan(15, 60) = BEYOND");
  }

  private static void promise17Best() {
    Rows.after(tenCorns(), "best", "best(62, 1) = 25", "best(62, 2) = 45", "best(62, 4) = 70", "best(62, 5) = 75",
        "best(62, 60) = 75", "best(992, 5) = 175", "best(63, 5) = BEYOND", "best(1023, 5) = BEYOND",
        "best(1, 0) = BEYOND", "best(1, 61) = BEYOND", "best(1024, 1) = BEYOND", "best(-1, 1) = BEYOND",
        "best(MIN, 1) = BEYOND", "best(0, 1) = 0", "best(0, 60) = 0", "best(512, 1) = 45", "fed(0) = 1",
        "best(1, 1) = STATE", "best(62, 5) = 70", "best(63, 5) = BEYOND", "best(1025, 1) = BEYOND", "days(1) = 0",
        "best(1, 1) = STATE", "best(62, 5) = 75");
  }

  private static void promise18Ith() {
    Rows.after(tenCorns(), "ith", "ith(62, 1, 0) = 5", "ith(62, 1, 1) = 1", "ith(62, 1, 4) = 4", "ith(62, 2, 0) = 4",
        "ith(62, 2, 1) = 5", "ith(62, 2, 2) = 1", "ith(62, 5, 0) = 1", "ith(62, 5, 4) = 5", "ith(62, 5, 5) = BEYOND",
        "ith(62, 5, -1) = BEYOND", "ith(62, 5, MAX) = BEYOND", "ith(62, 5, MIN) = BEYOND", "ith(63, 5, 0) = BEYOND",
        "ith(63, 5, 5) = BEYOND", "ith(512, 1, 0) = 9", "ith(512, 1, 1) = BEYOND", "ith(0, 1, 0) = BEYOND",
        "ith(1024, 1, 0) = BEYOND", "ith(1, 0, 0) = BEYOND", "ith(1, 61, 0) = BEYOND", "ith(1, 60, 0) = 0",
        "fed(1) = 1", "ith(2, 1, 0) = STATE", "ith(2, 1, 1) = BEYOND", "ith(6, 1, 1) = STATE");
    Rows.after(Hens.sated(0, 0, 0, 0, 0), "all orders bring as much", "ith(31, 1, 0) = 0", "ith(31, 1, 1) = 1",
        "ith(31, 1, 2) = 2", "ith(31, 1, 3) = 3", "ith(31, 1, 4) = 4", "ith(26, 60, 0) = 1", "ith(26, 60, 2) = 4");
    Rows.after(Hens.and(tenCorns(), "change(3, 2, 6)", "change(4, 2, 4)", "change(5, 2, 2)"), "the last order but few",
        "ith(60, 3, 0) = 2", "ith(60, 1, 0) = 2", "ith(56, 1, 0) = 3", "ith(56, 2, 1) = 4", "ith(48, 1, 1) = 5");
  }

  private static void promise19Next() {
    Rows.after(Hens.sated(1, 1, 1), "next", "next(0) = BEYOND", "next(61) = BEYOND", "next(1) = 0", "next(60) = 0",
        "change(2, 2, 12) = 10", "next(1) = 2", "change(1, 2, 12) = 10", "next(1) = 1", "change(0, 2, 12) = 10",
        "next(1) = 0", "change(0, 2, 13) = 12", "change(1, 2, 13) = 12", "next(1) = 0", "change(0, 2, 1) = 13",
        "change(1, 2, 1) = 13", "change(2, 2, 1) = 12", "next(1) = -1", "change(2, 2, 2) = 1", "next(1) = 2");
    Rows.after(Hens.and(Hens.sated(0, 1), "fed(0)"), "what is in counts, too", "next(2) = -1", "next(3) = -1",
        "next(4) = 1", "fed(1) = 2", "next(60) = -1", "days(4) = 15", "next(60) = -1", "home(1) = 5", "next(1) = 1");
    Rows.after(Hens.and(Hens.sated(6, 0), "change(1, 2, 20)", "fed(0)", "change(1, 0, 2)"), "it spoils just as much",
        "next(3) = -1", "next(4) = -1", "change(1, 2, 23) = 20", "next(60) = 1", "change(1, 2, 22) = 23",
        "next(60) = -1");
  }

  private static void promise20Foes() {
    Rows.after(Hens.and(Hens.sated(1, 1, 1, 1, 1, 1, 1, 1, 0, 0), "rule(0, 40)"), "the last pair", "foes(60) = 89",
        "foes(3) = 89", "foes(2) = 1", "foes(1) = 1", "foes(0) = BEYOND", "foes(61) = BEYOND", "fed(9) = 1",
        "foes(60) = 1", "fed(8) = 2", "foes(60) = 1");
    Rows.after(Hens.sated(0), "one is out", "foes(60) = NONE", "foes(0) = BEYOND", "thing(0) = 1", "foes(60) = 1",
        "fed(0) = 1", "foes(60) = NONE", "fed(1) = 2", "foes(60) = NONE", "thing(0) = 2", "foes(60) = NONE",
        "thing(0) = 3", "foes(60) = 23", "days(3) = 7", "foes(60) = 23", "home(0) = 7", "foes(60) = 2");
    Rows.after(Rows.at(9999, "thing(0)"), "STATE ahead of NONE", "foes(1) = STATE", "foes(61) = BEYOND");
  }

  private static void promise21KindFor() {
    Rows.after(Hens.sated(2), "kind for", "kindFor(-1, 1) = BEYOND", "kindFor(1, 1) = BEYOND", "kindFor(0, 0) = BEYOND",
        "kindFor(0, 61) = BEYOND", "kindFor(0, 1) = 1", "kindFor(0, 2) = 1", "kindFor(0, 3) = 0", "kindFor(0, 4) = 0",
        "kindFor(0, 5) = 4", "kindFor(0, 60) = 4", "change(0, 2, 1) = 10", "kindFor(0, 1) = 0", "kindFor(0, 3) = 0",
        "change(0, 2, 2) = 1", "kindFor(0, 1) = 1", "change(0, 2, 0) = 2", "kindFor(0, 4) = 0", "kindFor(0, 5) = 4",
        "rule(1, 3) = 0", "kindFor(0, 60) = 0", "rule(0, 2) = 12", "kindFor(0, 60) = 0", "rule(0, 1) = 2",
        "kindFor(0, 60) = FULL", "kindFor(0, 61) = BEYOND", "of(0, 0) = 2", "of(0, 4) = 0");
    Rows.after(Hens.and(Hens.sated(4, 0), "fed(0)"), "behind another one", "kindFor(1, 4) = 0", "kindFor(1, 5) = 0",
        "kindFor(1, 6) = 4", "kindFor(0, 6) = STATE", "days(5) = 15", "kindFor(0, 6) = STATE");
    Rows.after(Hens.and(Hens.sated(0, 0), "fed(0)", "rule(0, 2)"), "STATE ahead of FULL", "kindFor(0, 1) = STATE",
        "kindFor(1, 1) = FULL", "kindFor(2, 1) = BEYOND", "rule(0, 3) = 2", "kindFor(1, 1) = FULL", "rule(0, 4) = 3",
        "kindFor(1, 1) = 0");
    Rows.after(Rows.at(9999, "thing(0)", "rule(0, 1)"), "STATE ahead of FULL, too", "kindFor(0, 1) = STATE");
  }

  private static void promise22Rid() {
    Rows.after(Hens.and(Hens.sated(6, 6), "fed(0)", "fed(1)"), "of several the least", "rid(0) = BEYOND",
        "rid(61) = BEYOND", "rid(60) = 1", "rid(3) = 1", "rid(2) = 0", "rid(1) = 0", "change(1, 2, 9) = 10",
        "rid(60) = 2", "change(1, 2, 11) = 9", "rid(60) = 1", "days(1) = 0", "rid(60) = 0", "now(1) = 2",
        "of(0, 4) = 1");
    Rows.after(Hens.and(Hens.sated(1, 1, 1, 1, 1, 1, 1, 1, 6, 0), "fed(8)", "fed(9)"), "the last thing",
        "rid(60) = 256", "change(9, 2, 99) = 10", "rid(60) = 256", "change(8, 2, 88) = 10", "rid(60) = 256",
        "change(8, 2, 99) = 88", "rid(60) = 256", "change(9, 2, 98) = 99", "rid(60) = 512");
    List<String> eight = Hens.sated(4, 1, 1, 1, 1, 1, 1, 4);
    eight.add("rule(0, 40)");
    for (int t = 0; t < 8; t++) {
      eight.add("fed(" + t + ")");
    }
    Rows.after(eight, "eight are in", "rid(4) = 1", "rid(5) = 7", "rid(6) = 3", "rid(7) = 1", "rid(9) = 1",
        "rid(10) = 6", "rid(11) = 2", "rid(12) = 0");
    Rows.after(Hens.and(Hens.sated(1), "fed(0)", "days(1)"), "none is in", "rid(1) = 0", "rid(60) = 0");
    Rows.after(List.of("thing(1)", "thing(1)", "fed(0)", "fed(1)", "rule(1, 3)"), "the bulk of one that is out lacks",
        "rid(60) = 0", "change(0, 2, 1) = 10", "rid(60) = 0");
  }
}
