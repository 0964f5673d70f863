import java.util.List;

/** The bounds that the Terms' DRAWS and promises 26 to 32 name, from both sides. */
public final class WaitingEdgesTest {
  public static void main(String[] args) {
    promise26And27Bounds();
    promise26Fits();
    promise27May();
    promise28Laid();
    promise29Room();
    promise29RoomBounds();
    promise30Starves();
    promise31Lent();
    promise31DrawsWrapAround();
    promise32Seed();
    Check.end();
  }

  private static void promise26And27Bounds() {
    Rows.after(Hens.sated(1, 1), "fits and may", "fits(-1, 1) = BEYOND", "fits(105, 1) = BEYOND", "fits(0, 0) = BEYOND",
        "fits(0, 61) = BEYOND", "fits(0, 1) = 0", "fits(104, 60) = 0", "fits(5, 1) = 2", "fits(5, 60) = 2",
        "fits(MIN, 1) = BEYOND", "fits(MAX, 1) = BEYOND", "fits(0, MIN) = BEYOND", "fits(0, MAX) = BEYOND",
        "may(-1, 1) = BEYOND", "may(105, 1) = BEYOND", "may(0, 0) = BEYOND", "may(0, 61) = BEYOND", "may(0, 1) = 0",
        "may(104, 60) = 0", "may(5, 1) = 3", "may(5, 60) = 3", "may(MIN, 1) = BEYOND", "may(MAX, 1) = BEYOND",
        "may(5, MIN) = BEYOND", "may(5, MAX) = BEYOND");
    Rows.after(Rows.at(9999), "BEYOND ahead of STATE", "fits(105, 1) = BEYOND", "fits(0, 61) = BEYOND",
        "fits(0, 1) = STATE", "may(-1, 1) = BEYOND", "may(0, 0) = BEYOND", "may(0, 1) = STATE");
  }

  private static void promise26Fits() {
    Rows.after(Hens.sated(1), "one is out", "fits(5, 60) = 0", "thing(1) = 1", "fits(5, 60) = 2", "fed(0) = 1",
        "fits(5, 60) = 0", "thing(1) = 2", "fits(5, 60) = 2", "days(1) = 5", "fits(5, 60) = 2", "home(0) = 5",
        "fits(5, 60) = 6");
    Rows.after(Hens.sated(1, 1, 1, 1, 1, 1, 1, 1, 1, 1), "all rows of ten", "fits(5, 1) = 90", "may(5, 1) = 1023",
        "change(9, 2, 99) = 10", "fits(5, 1) = 81", "fits(49, 1) = 9", "may(49, 1) = 512");
    Rows.after(Hens.and(Hens.sated(4, 1), "change(0, 2, 99)"), "the most that an egg may be worth", "fits(104, 4) = 0",
        "fits(104, 5) = 1", "may(104, 5) = 1", "fits(103, 60) = 0", "change(0, 2, 98) = 99", "fits(104, 60) = 0",
        "fits(103, 60) = 1");
    Rows.after(Hens.sated(6, 6), "worth nothing", "fits(0, 2) = 0", "fits(0, 3) = 2", "may(0, 3) = 3",
        "fits(0, 60) = 2", "fits(10, 60) = 0");
    Rows.after(Hens.and(Hens.sated(0, 0), "change(0, 1, 9)", "rule(0, 8)"), "neither of both is fed",
        "fits(10, 60) = 2", "may(10, 60) = 3", "rule(0, 1) = 8", "fits(10, 60) = 0", "fits(0, 60) = 0",
        "may(0, 60) = 0");
  }

  private static void promise27May() {
    Rows.after(Hens.sated(0, 6, 1), "may", "may(10, 60) = 3", "fits(10, 60) = 2", "may(8, 60) = 0", "may(2, 60) = 1",
        "fits(2, 60) = 1", "may(0, 60) = 2", "fits(0, 60) = 1", "may(5, 60) = 4", "fits(5, 60) = 2");
  }

  private static void promise28Laid() {
    Rows.after(Hens.sated(1, 1, 1, 1, 1, 1, 1, 1, 1, 1), "laid", "laid(-1) = BEYOND", "laid(2) = BEYOND",
        "laid(MIN) = BEYOND", "laid(MAX) = BEYOND", "laid(0) = 0", "fed(9) = 1", "laid(0) = 0", "days(1) = 5",
        "laid(0) = 512", "laid(1) = 0", "fed(0) = 1", "days(1) = 5", "laid(0) = 513", "change(9, 3, 1) = 0",
        "laid(0) = 1", "laid(1) = 512", "home(9) = 5", "laid(1) = 0");
  }

  /** The least ROOM: what is IN on the fullest DAY of the FEEDING. */
  private static void promise29Room() {
    List<String> ten = Hens.sated(0, 0, 0, 0, 0, 0, 0, 0, 0, 0);
    Rows.after(ten, "room", "room(0) = 1", "room(1) = 2", "room(3) = 4", "room(7) = 6", "room(15) = 6",
        "room(1023) = 6", "room(1024) = BEYOND", "room(-1) = BEYOND", "room(MIN) = BEYOND", "room(MAX) = BEYOND",
        "change(9, 1, 9) = 2", "room(1023) = 13", "change(9, 1, 1) = 9", "room(512) = 1", "room(1023) = 6");
    Rows.after(Hens.and(Hens.sated(4, 4, 4, 4, 4, 4), "change(5, 1, 1)"), "rings", "room(31) = 10", "room(63) = 10",
        "change(5, 1, 9) = 1", "room(63) = 17");
    Rows.after(Hens.and(Hens.sated(0, 0), "fed(0)"), "STATE", "room(1) = STATE", "room(3) = STATE", "room(5) = BEYOND",
        "room(2) = 4", "room(0) = 1", "days(3) = 10", "room(1) = STATE", "room(2) = 2", "home(0) = 10", "room(3) = 4");
  }

  private static void promise29RoomBounds() {
    List<String> five = Hens.sated(4, 4, 4, 4, 4);
    for (int t = 0; t < 5; t++) {
      five.add("change(" + t + ", 1, 8)");
    }
    Rows.after(five, "room for 40", "room(31) = 40", "change(4, 1, 9) = 8", "room(31) = NONE", "room(15) = 32",
        "change(0, 1, 7) = 8", "room(31) = 40", "rule(0, 1) = 12", "room(31) = 40");
    List<String> eight = Hens.sated(4, 4, 4, 4, 4, 4, 4, 4, 4, 4);
    eight.add("rule(0, 40)");
    for (int t = 0; t < 7; t++) {
      eight.add("fed(" + t + ")");
    }
    Rows.after(eight, "the crop is full", "room(128) = 16", "room(384) = NONE", "fed(7) = 8", "room(256) = NONE",
        "room(0) = 1", "days(5) = 13", "room(256) = 16", "room(768) = 16");
    Rows.after(Hens.and(Hens.sated(4, 1), "change(0, 1, 9)", "change(1, 1, 1)", "fed(0)", "rule(0, 40)"),
        "what is in counts", "room(2) = 10", "days(4) = 0", "room(2) = 10", "days(1) = 15", "room(2) = 1");
  }

  private static void promise30Starves() {
    for (int bulk = 1; bulk <= 9; bulk++) {
      Rows.after(List.of("thing(0)", "change(0, 1, " + bulk + ")", "fed(0)"), "starves of bulk " + bulk,
          "starves(2) = 9", "starves(3) = " + bulk, "starves(60) = " + bulk, "rule(1, 9) = 2", "starves(60) = " + bulk);
    }
    Rows.after(List.of("thing(1)", "thing(1)", "change(0, 1, 9)", "change(1, 1, 1)", "fed(0)", "fed(1)"),
        "starves of bulk 10", "starves(1) = 9", "starves(2) = 1", "starves(0) = BEYOND", "starves(61) = BEYOND",
        "starves(MIN) = BEYOND", "starves(MAX) = BEYOND", "now(6) = 2", "days(1) = 5", "starves(1) = 1");
    Rows.after(List.of("thing(1)"), "none is in", "starves(1) = 9", "starves(60) = 9");
    Rows.after(Rows.at(9999), "BEYOND ahead of STATE", "starves(61) = BEYOND", "starves(1) = STATE");
  }

  private static void promise31Lent() {
    Rows.after(List.of(), "no things", "lent(0) = BEYOND", "lent(13) = BEYOND", "lent(1) = STATE", "lent(12) = STATE",
        "count(6) = 1", "now(0) = 0", "thing(1) = 0", "lent(12) = 5", "now(0) = 12");
    Rows.after(Hens.sated(1), "lent", "lent(0) = BEYOND", "lent(13) = BEYOND", "lent(-1) = BEYOND",
        "lent(MIN) = BEYOND", "lent(MAX) = BEYOND", "count(6) = 1", "lent(1) = 5", "now(0) = 1", "now(3) = 1",
        "count(6) = 1103527590", "home(0) = 5", "lent(12) = 5", "now(0) = 13", "now(3) = 2");
    Rows.after(Hens.and(Hens.sated(0), "rule(0, 2)"), "room to its last bulk", "lent(3) = 10", "home(0) = 10",
        "rule(0, 1) = 2", "lent(12) = 0", "now(0) = 15", "now(1) = 0", "of(0, 4) = 0");
    Rows.after(Hens.and(Hens.sated(4), "fed(0)"), "it is in: a day goes all the same", "lent(4) = 0", "of(0, 5) = 4",
        "lent(1) = 15", "now(3) = 1");
    Rows.after(Hens.and(Hens.sated(4, 1), "rule(0, 2)", "fed(0)"), "room is used up: draws all the same", "lent(1) = 0",
        "count(6) = 1103527590", "lent(1) = 0", "count(6) = -1770082073", "now(1) = 1", "of(1, 4) = 0");
    List<String> nine = Hens.sated(4, 4, 4, 4, 4, 4, 4, 4, 1);
    nine.add("rule(0, 40)");
    for (int t = 0; t < 8; t++) {
      nine.add("fed(" + t + ")");
    }
    // From 2 on the first draw is 8621261, of 9: 8; from 0 on it is 48, of 9: 3.
    Rows.after(Hens.and(nine, "seed(2)"), "eight are in: the ninth one isn't fed", "lent(1) = 0",
        "count(6) = -2087924461", "now(1) = 8", "of(8, 4) = 0", "of(0, 5) = 1", "seed(0) = -2087924461", "lent(1) = 0",
        "count(6) = 12345", "now(1) = 8", "days(3) = 13", "now(1) = 7", "seed(2) = 12345", "lent(1) = 10",
        "of(8, 4) = 1", "crop(6) = 8");
    Rows.after(Rows.at(9999, "thing(1)"), "on the last day", "lent(13) = BEYOND", "lent(1) = STATE", "count(6) = 1");
  }

  /** Of three CORNS: which one is fed. */
  private static void drawn(String z, int then, int thing) {
    Rows.after(Hens.sated(1, 1, 1), "z " + z, "seed(" + z + ") = 1", "lent(1) = 5", "count(6) = " + then,
        "egg(0, 0) = " + thing);
  }

  private static void promise31DrawsWrapAround() {
    drawn("0", 12345, 0);
    drawn("-1", -1103502900, 1);
    drawn("MIN", -2147471303, 2);
    drawn("MAX", 1043980748, 2);
    drawn("1", 1103527590, 2);
  }

  private static void promise32Seed() {
    FedHen x = new FedHen();
    int was = 1;
    int[] all = {0, -1, Integer.MIN_VALUE, Integer.MAX_VALUE, -1000000, -1000001, -1000002, -1000003, -1000004,
        -1000005, -1000006, -1000007, -1000008};
    for (int z : all) {
      Rows.due("seed", x, "seed(" + z + ") = " + was, "count(6) = " + z);
      was = z;
    }
    Rows.due("seeds are no findings", x, "status(-1) = 0", "image() = 1", "seed(5) = -1000008", "undo() = 0",
        "count(6) = -1000008", "status(-1) = 0");
  }
}
