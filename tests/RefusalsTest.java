import java.util.ArrayList;
import java.util.List;

/**
 * Each call that is refused, with its finding; where two could be meant, the one that is asked first; and nothing but
 * STATUS changes by it.
 */
public final class RefusalsTest {
  public static void main(String[] args) {
    empty();
    busyThings();
    busyLooks();
    busySpotsAndSheets();
    tight();
    full();
    eggs();
    lastDay();
    dayBeforeTheLast();
    tenDaysBeforeTheLast();
    sixtyDaysBeforeTheLast();
    Check.end();
  }

  private static void empty() {
    Refused.on("empty", List.of(), "thing(-1) = BEYOND", "thing(7) = BEYOND", "of(0, 0) = BEYOND",
        "change(0, 0, 0) = BEYOND", "rule(0, 0) = BEYOND", "rule(1, 10) = BEYOND", "fed(0) = BEYOND",
        "home(0) = BEYOND", "crop(-1) = BEYOND", "crop(0) = NONE", "crop(8) = BEYOND", "egg(0, 0) = NONE",
        "egg(-1, 0) = BEYOND", "egg(0, 3) = BEYOND", "days(0) = BEYOND", "now(7) = BEYOND", "ahead(61, 0) = BEYOND",
        "when(0) = BEYOND", "worth(0) = BEYOND", "spoils() = NONE", "plan(1, 1) = BEYOND", "best(1, 1) = BEYOND",
        "ith(0, 1, 0) = BEYOND", "next(0) = BEYOND", "foes(1) = NONE", "foes(0) = BEYOND", "kindFor(0, 1) = BEYOND",
        "rid(0) = BEYOND", "turns(0, 1) = BEYOND", "first(1, 0) = BEYOND", "share(0, -1) = BEYOND",
        "fits(105, 1) = BEYOND", "may(0, 0) = BEYOND", "laid(2) = BEYOND", "room(1) = BEYOND", "starves(0) = BEYOND",
        "lent(1) = STATE", "lent(0) = BEYOND", "lent(13) = BEYOND", "feed(0, 5) = BEYOND", "hold(0, 0) = BEYOND",
        "as(0, 0) = MISSING", "as(0, 7) = BEYOND", "write(0, 0, 0) = MISSING", "write(4, 0, 0) = BEYOND",
        "copy(0, 0, 1, 0, 0) = MISSING", "load(0) = MISSING", "load(4) = BEYOND", "judge(0) = MISSING",
        "judge(-1) = BEYOND", "sheet(0, 8, -1) = SIZE", "undo() = NONE", "count(8) = BEYOND", "status(7) = BEYOND");
  }

  private static void busyThings() {
    Refused.on("busy", Hens.busy(), "thing(-1) = BEYOND", "thing(7) = BEYOND", "of(-1, 0) = BEYOND",
        "of(5, 0) = BEYOND", "of(0, -1) = BEYOND", "of(0, 10) = BEYOND", "change(-1, 0, 0) = BEYOND",
        "change(5, 0, 0) = BEYOND", "change(0, -1, 0) = BEYOND", "change(0, 4, 0) = BEYOND",
        "change(0, 0, -1) = BEYOND", "change(0, 0, 7) = BEYOND", "change(0, 1, 0) = BEYOND",
        "change(0, 1, 10) = BEYOND", "change(0, 2, -1) = BEYOND", "change(0, 2, 100) = BEYOND",
        "change(0, 3, -1) = BEYOND", "change(0, 3, 2) = BEYOND", "rule(-1, 5) = BEYOND", "rule(2, 5) = BEYOND",
        "rule(0, 0) = BEYOND", "rule(0, 41) = BEYOND", "rule(1, -1) = BEYOND", "rule(1, 10) = BEYOND",
        "fed(-1) = BEYOND", "fed(5) = BEYOND", "fed(0) = STATE", "fed(1) = STATE", "fed(2) = STATE",
        "home(-1) = BEYOND", "home(5) = BEYOND", "home(0) = STATE", "home(3) = STATE", "crop(-1) = BEYOND",
        "crop(2) = NONE", "crop(7) = NONE", "crop(8) = BEYOND", "egg(-1, 0) = BEYOND", "egg(0, -1) = BEYOND",
        "egg(0, 3) = BEYOND", "egg(1, 0) = NONE", "egg(1, 3) = BEYOND", "egg(-1, 3) = BEYOND", "egg(12, 0) = NONE",
        "days(0) = BEYOND", "days(-1) = BEYOND", "days(61) = BEYOND", "lent(0) = BEYOND", "lent(13) = BEYOND",
        "now(-1) = BEYOND", "now(7) = BEYOND", "feed(0, 0) = BEYOND", "feed(0, 5) = BEYOND", "count(-1) = BEYOND",
        "count(8) = BEYOND", "status(-2) = BEYOND", "status(7) = BEYOND");
  }

  private static void busyLooks() {
    Refused.on("busy", Hens.busy(), "ahead(-1, 0) = BEYOND", "ahead(61, 0) = BEYOND", "ahead(0, -1) = BEYOND",
        "ahead(0, 5) = BEYOND", "when(-1) = BEYOND", "when(5) = BEYOND", "when(2) = STATE", "when(3) = STATE",
        "worth(-1) = BEYOND", "worth(5) = BEYOND", "worth(2) = STATE", "worth(3) = STATE", "plan(24, 0) = BEYOND",
        "plan(24, 61) = BEYOND", "plan(32, 1) = BEYOND", "plan(-1, 1) = BEYOND", "plan(1, 1) = STATE",
        "plan(4, 1) = STATE", "plan(31, 1) = STATE", "plan(33, 1) = BEYOND", "plan(1, 0) = BEYOND",
        "best(24, 0) = BEYOND", "best(24, 61) = BEYOND", "best(32, 1) = BEYOND", "best(2, 1) = STATE",
        "best(31, 1) = STATE", "best(63, 1) = BEYOND", "ith(24, 0, 0) = BEYOND", "ith(24, 61, 0) = BEYOND",
        "ith(24, 1, 2) = BEYOND", "ith(24, 1, -1) = BEYOND", "ith(0, 1, 0) = BEYOND", "ith(32, 1, 0) = BEYOND",
        "ith(1, 1, 0) = STATE", "ith(1, 1, 1) = BEYOND", "ith(25, 1, 3) = BEYOND", "ith(25, 1, 2) = STATE",
        "next(0) = BEYOND", "next(61) = BEYOND", "foes(0) = BEYOND", "foes(61) = BEYOND", "kindFor(-1, 1) = BEYOND",
        "kindFor(5, 1) = BEYOND", "kindFor(3, 0) = BEYOND", "kindFor(3, 61) = BEYOND", "kindFor(0, 0) = BEYOND",
        "kindFor(0, 1) = STATE", "kindFor(2, 1) = STATE", "rid(0) = BEYOND", "rid(61) = BEYOND", "turns(0, 1) = BEYOND",
        "turns(5, 9) = BEYOND", "turns(2, 1) = BEYOND", "turns(1, 61) = BEYOND", "first(0, 1) = BEYOND",
        "first(5, 9) = BEYOND", "first(2, 1) = BEYOND", "first(1, 61) = BEYOND", "share(-1, 1) = BEYOND",
        "share(2, 1) = BEYOND", "share(0, -1) = BEYOND", "share(0, 61) = BEYOND", "fits(-1, 1) = BEYOND",
        "fits(105, 1) = BEYOND", "fits(0, 0) = BEYOND", "fits(0, 61) = BEYOND", "may(-1, 1) = BEYOND",
        "may(105, 1) = BEYOND", "may(0, 0) = BEYOND", "may(0, 61) = BEYOND", "laid(-1) = BEYOND", "laid(2) = BEYOND",
        "room(32) = BEYOND", "room(-1) = BEYOND", "room(1) = STATE", "room(4) = STATE", "room(33) = BEYOND",
        "starves(0) = BEYOND", "starves(61) = BEYOND");
  }

  private static void busySpotsAndSheets() {
    Refused.on("busy", Hens.busy(), "hold(-1, 0) = BEYOND", "hold(10, 0) = BEYOND", "hold(0, -2) = BEYOND",
        "hold(0, 5) = BEYOND", "hold(10, -1) = BEYOND", "as(-1, 0) = BEYOND", "as(10, 0) = BEYOND",
        "as(0, -1) = BEYOND", "as(0, 7) = BEYOND", "as(1, 7) = BEYOND", "as(1, 0) = MISSING", "as(1, 6) = MISSING",
        "as(0, 1) = KIND", "as(9, 5) = KIND", "sheet(-1, 8, 1) = BEYOND", "sheet(4, 8, 1) = BEYOND",
        "sheet(0, 1, 1) = BEYOND", "sheet(0, 64, 1) = BEYOND", "sheet(0, 8, -1) = SIZE", "sheet(0, 0, -1) = SIZE",
        "sheet(0, 8, 41) = BEYOND", "sheet(0, 0, 41) = BEYOND", "sheet(4, 8, -1) = BEYOND", "sheet(0, 9, -1) = BEYOND",
        "sheet(3, 16, -1) = SIZE", "sheet(3, 16, 41) = BEYOND", "write(-1, 0, 1) = BEYOND", "write(4, 0, 1) = BEYOND",
        "write(3, 0, 1) = MISSING", "write(3, -1, 1) = MISSING", "write(0, 3, 1) = BEYOND", "write(0, -1, 1) = BEYOND",
        "write(2, 0, 1) = BEYOND", "copy(-1, 0, 0, 0, 1) = BEYOND", "copy(0, 0, 4, 0, 1) = BEYOND",
        "copy(3, 0, 4, 0, 1) = BEYOND", "copy(4, 0, 3, 0, 1) = BEYOND", "copy(3, 0, 0, 0, 1) = MISSING",
        "copy(0, 0, 3, 0, 1) = MISSING", "copy(0, -1, 3, 0, 1) = MISSING", "copy(3, 0, 3, 0, 0) = MISSING",
        "copy(0, 0, 1, 0, 1) = KIND", "copy(1, 0, 0, 0, 9) = KIND", "copy(0, -1, 1, 0, 1) = KIND",
        "copy(0, 0, 1, 0, -1) = KIND", "copy(0, 0, 0, 1, 3) = BEYOND", "copy(0, 1, 0, 0, 3) = BEYOND",
        "copy(0, 0, 2, 0, 1) = BEYOND", "copy(2, 0, 0, 0, 1) = BEYOND", "copy(0, -1, 0, 0, 1) = BEYOND",
        "copy(0, 0, 0, -1, 1) = BEYOND", "copy(0, 0, 0, 0, -1) = BEYOND", "copy(0, 4, 0, 0, 0) = BEYOND",
        "copy(0, 0, 0, 4, 0) = BEYOND", "load(-1) = BEYOND", "load(4) = BEYOND", "load(3) = MISSING",
        "judge(-1) = BEYOND", "judge(4) = BEYOND", "judge(3) = MISSING");
  }

  private static void tight() {
    Refused.on("tight", Hens.tight(), "fed(3) = FULL", "fed(4) = FULL", "fed(0) = STATE", "fed(2) = STATE",
        "fed(5) = BEYOND", "kindFor(3, 9) = FULL", "kindFor(3, 0) = BEYOND", "kindFor(3, 61) = BEYOND",
        "kindFor(0, 9) = STATE", "kindFor(2, 9) = STATE", "kindFor(5, 9) = BEYOND", "undo() = NONE");
    // RINGS of BULK 36 are IN and stay so: the last one needs ROOM 41, or 40.
    List<String> heavy = Hens.and(List.of("thing(4)", "thing(4)", "thing(4)", "thing(4)", "thing(4)", "rule(0, 40)"),
        "change(0, 1, 9)", "change(1, 1, 9)", "change(2, 1, 9)", "change(3, 1, 9)", "change(4, 1, 5)", "fed(0)",
        "fed(1)", "fed(2)", "fed(3)");
    Refused.on("heavy", heavy, "room(16) = NONE", "room(17) = STATE", "room(48) = BEYOND", "fed(4) = FULL");
    Rows.after(Hens.and(heavy, "change(4, 1, 4)"), "not too heavy", "room(16) = 40", "fed(4) = 5");
  }

  private static void full() {
    Refused.on("full", Hens.full(), "thing(0) = FULL", "thing(6) = FULL", "thing(-1) = BEYOND", "thing(7) = BEYOND",
        "fed(8) = FULL", "fed(9) = FULL", "fed(0) = STATE", "fed(10) = BEYOND", "of(10, 0) = BEYOND",
        "crop(8) = BEYOND", "feed(0, 1) = FULL", "feed(0, 4) = FULL", "feed(0, 0) = BEYOND", "feed(0, 5) = BEYOND",
        "hold(0, 10) = BEYOND", "hold(10, 0) = BEYOND", "kindFor(8, 9) = FULL", "kindFor(0, 9) = STATE",
        "kindFor(10, 9) = BEYOND", "plan(1024, 9) = BEYOND", "plan(1023, 9) = STATE", "best(1023, 9) = BEYOND",
        "best(769, 9) = STATE", "room(256) = NONE", "room(1024) = BEYOND", "room(257) = STATE",
        "write(0, 40, 1) = BEYOND", "copy(0, 1, 1, 0, 40) = BEYOND", "copy(0, 0, 2, 0, 40) = KIND", "as(0, 1) = KIND");
    Refused.on("full but for room", Hens.and(Hens.full(), "rule(0, 40)"), "fed(8) = FULL", "kindFor(9, 9) = FULL",
        "room(512) = NONE");
  }

  private static void eggs() {
    Refused.on("eggs", Hens.eggs(), "egg(12, 0) = NONE", "egg(13, 1) = NONE", "egg(MAX, 2) = NONE",
        "egg(12, 3) = BEYOND", "egg(-1, 0) = BEYOND", "home(1) = STATE", "home(3) = BEYOND", "crop(0) = NONE",
        "spoils() = NONE", "when(0) = STATE", "foes(0) = BEYOND");
    Refused.on("one is out", List.of("thing(0)", "thing(0)", "fed(1)"), "foes(9) = NONE", "foes(61) = BEYOND");
    Refused.on("none is in", List.of("thing(0)"), "foes(9) = NONE", "crop(0) = NONE", "spoils() = NONE");
  }

  /** Both findings could be meant: BEYOND is asked first, then STATE. */
  private static void lastDay() {
    Refused.on("day 9999", Hens.late(9999), "days(1) = STATE", "days(60) = STATE", "days(0) = BEYOND",
        "days(61) = BEYOND", "lent(1) = STATE", "lent(12) = STATE", "lent(0) = BEYOND", "lent(13) = BEYOND",
        "ahead(1, 0) = STATE", "ahead(61, 0) = BEYOND", "ahead(1, 5) = BEYOND", "when(0) = STATE", "when(1) = STATE",
        "when(4) = BEYOND", "worth(0) = STATE", "worth(4) = BEYOND", "spoils() = STATE", "plan(2, 1) = STATE",
        "plan(2, 61) = BEYOND", "plan(16, 1) = BEYOND", "plan(0, 1) = STATE", "best(2, 1) = STATE",
        "best(2, 0) = BEYOND", "best(16, 1) = BEYOND", "ith(2, 1, 0) = STATE", "ith(2, 1, 1) = BEYOND",
        "ith(2, 61, 0) = BEYOND", "next(1) = STATE", "next(0) = BEYOND", "next(61) = BEYOND", "foes(1) = STATE",
        "foes(0) = BEYOND", "foes(61) = BEYOND", "kindFor(1, 1) = STATE", "kindFor(1, 0) = BEYOND",
        "kindFor(4, 1) = BEYOND", "rid(1) = STATE", "rid(0) = BEYOND", "rid(61) = BEYOND", "turns(1, 1) = STATE",
        "turns(2, 1) = BEYOND", "turns(5, 9) = BEYOND", "turns(1, 61) = BEYOND", "first(1, 1) = STATE",
        "first(2, 1) = BEYOND", "first(0, 1) = BEYOND", "share(0, 1) = STATE", "share(2, 1) = BEYOND",
        "share(0, 61) = BEYOND", "fits(0, 1) = STATE", "fits(105, 1) = BEYOND", "fits(0, 61) = BEYOND",
        "may(0, 1) = STATE", "may(-1, 1) = BEYOND", "may(0, 0) = BEYOND", "room(2) = STATE", "room(0) = STATE",
        "room(16) = BEYOND", "starves(1) = STATE", "starves(0) = BEYOND", "starves(61) = BEYOND", "judge(0) = STATE",
        "judge(3) = STATE", "judge(4) = BEYOND");
    Refused.on("day 9999, tight", Hens.and(Hens.late(9999), "rule(0, 2)", "sheet(0, 0, 0)"), "kindFor(1, 1) = STATE",
        "fed(1) = FULL", "judge(0) = MISSING");
    Refused.on("day 9999, one is out", Hens.and(Hens.late(9999), "fed(1)"), "foes(1) = STATE");
    Refused.on("day 9999, no things", Rows.at(9999), "lent(1) = STATE", "spoils() = STATE", "foes(1) = STATE");
  }

  private static void dayBeforeTheLast() {
    List<String> day = Hens.late(9998);
    Refused.on("day 9998", day, "days(2) = STATE", "lent(2) = STATE", "ahead(2, 0) = STATE", "plan(2, 2) = STATE",
        "best(2, 2) = STATE", "ith(2, 2, 0) = STATE", "next(2) = STATE", "foes(2) = STATE", "kindFor(1, 2) = STATE",
        "rid(2) = STATE", "turns(1, 2) = STATE", "first(2, 2) = STATE", "share(0, 2) = STATE", "fits(0, 2) = STATE",
        "may(0, 2) = STATE", "starves(2) = STATE", "judge(1) = STATE");
    Rows.after(day, "day 9998 goes", "ahead(1, 0) = 0", "plan(2, 1) = 0", "best(2, 1) = 0", "ith(2, 1, 0) = 1",
        "next(1) = -1", "foes(1) = 12", "kindFor(1, 1) = 0", "rid(1) = 0", "turns(1, 1) = 0", "first(1, 1) = -1",
        "share(0, 1) = 0", "fits(0, 1) = 0", "may(0, 1) = 0", "starves(1) = 9", "judge(0) = 1", "lent(1) = 0",
        "now(0) = 9999");
  }

  private static void tenDaysBeforeTheLast() {
    Refused.on("day 9990", Hens.late(9990), "room(2) = STATE", "room(0) = STATE", "room(16) = BEYOND",
        "judge(2) = STATE", "days(10) = STATE", "lent(10) = STATE", "when(0) = STATE", "spoils() = STATE");
    Rows.after(Hens.late(9989), "day 9989", "room(2) = 4", "room(0) = 1", "room(1) = STATE", "room(8) = STATE",
        "judge(2) = 1", "days(10) = 15", "now(0) = 9999");
  }

  private static void sixtyDaysBeforeTheLast() {
    List<String> calls = new ArrayList<>(Hens.late(9940));
    Refused.on("day 9940", calls, "when(0) = STATE", "worth(0) = STATE", "spoils() = STATE", "days(60) = STATE",
        "ahead(60, 0) = STATE", "plan(2, 60) = STATE", "best(2, 60) = STATE", "next(60) = STATE", "foes(60) = STATE",
        "kindFor(1, 60) = STATE", "rid(60) = STATE", "turns(4, 60) = STATE", "first(4, 60) = STATE",
        "share(0, 60) = STATE", "fits(0, 60) = STATE", "may(0, 60) = STATE", "starves(60) = STATE");
    Refused.on("day 9960", Hens.late(9960), "judge(3) = STATE");
    Refused.on("day 9939", Hens.late(9939), "spoils() = NONE", "when(1) = STATE", "when(3) = STATE");
    Rows.after(Hens.late(9939), "day 9939 goes", "when(0) = 5", "worth(0) = 15", "days(60) = 15", "now(0) = 9999");
  }
}
