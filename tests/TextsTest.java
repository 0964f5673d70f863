/** Promises 33 to 35: texts. */
public final class TextsTest {
  public static void main(String[] args) {
    promise33Feed();
    promise34Wipe();
    promise35Items();
    promise35Told();
    promise35Faults();
    promise35EndsTooEarly();
    promise35Eleventh();
    promise35FullTape();
    Check.end();
  }

  private static void promise33Feed() {
    FedHen x = new FedHen();
    Check.due("feed 0", x.feed('a', 0), Check.BEYOND);
    Check.due("feed 5", x.feed('a', 5), Check.BEYOND);
    Check.due("feed -1", x.feed('a', -1), Check.BEYOND);
    int roo = 'r' << 16 | 'o' << 8 | 'o';
    Check.due("the three lowest", x.feed(0x7f000000 | roo, 3), 3);
    Check.due("the two lowest", x.feed(-1 << 16 | 'm' << 8 | '7', 2), 5);
    Check.due("text of them", x.text(), 1);
    Check.due("its room", x.now(5), 7);
    Check.due("four", x.feed('r' << 24 | roo >> 8 << 8 | 'm', 4), 4);
    Check.due("not that word", x.text(), -1);
    for (int i = 1; i <= 29; i++) {
      Check.due("feed 4", x.feed(0, 4), 4 * i);
    }
    Check.due("feed 3", x.feed(0, 3), 119);
    Check.due("feed 2 of 1", x.feed(0, 2), Check.FULL);
    Check.due("BEYOND ahead of FULL", x.feed(0, 5), Check.BEYOND);
    Check.due("feed the last", x.feed(0, 1), 120);
    Check.due("feed above", x.feed(0, 1), Check.FULL);
    Check.due("bytes", x.count(5), 120);
  }

  private static void promise34Wipe() {
    FedHen x = new FedHen();
    Check.tape(x, "room 1");
    Check.due("wipe", x.wipe(), 6);
    Check.due("wipe again", x.wipe(), 0);
    Check.due("text of nothing", x.text(), -1);
    Check.due("room", x.now(5), 12);
  }

  private static void promise35Items() {
    FedHen x = new FedHen();
    Check.due("all kinds", Check.text(x, "thing;corn;metal;gold;ring;sand;deed"), 7);
    for (int t = 0; t < 7; t++) {
      Check.due("kind " + t, x.of(t, 0), t);
      Check.due("bulk", x.of(t, 1), 2);
      Check.due("worth", x.of(t, 2), 10);
      Check.due("owner", x.of(t, 3), 0);
      Check.due("it is OUT", x.of(t, 4), 0);
    }
    Check.due("the tape is empty", x.count(5), 0);
    Check.due("blanks", Check.text(x, "  gold  bulk  9   worth 0 of 1 ; ring worth99;room40;hunger0  "), 4);
    int[] due = {3, 9, 0, 1};
    for (int what = 0; what < 4; what++) {
      Check.due("gold: " + what, x.of(7, what), due[what]);
    }
    Check.due("ring: worth", x.of(8, 2), 99);
    Check.due("room", x.now(5), 40);
    Check.due("hunger", x.now(6), 0);
    Check.due("no findings", x.status(-1), 0);
    Check.due("the least room", Check.text(x, "room 1;hunger 9"), 2);
    Check.due("room", x.now(5), 1);
    Check.due("hunger", x.now(6), 9);
  }

  private static void promise35Told() {
    FedHen x = new FedHen();
    x.rule(1, 5);
    Check.due("the later one counts", Check.text(x, "room 3;room 40;room 007"), 3);
    Check.due("room", x.now(5), 7);
    Check.due("hunger stays", x.now(6), 5);
    Check.due("parts may lack", Check.text(x, "sand of 1;deed bulk 1 of 0;corn bulk 3 worth 5"), 3);
    Check.due("sand: owner", x.of(0, 3), 1);
    Check.due("deed: bulk", x.of(1, 1), 1);
    Check.due("corn: bulk", x.of(2, 1), 3);
    Check.due("corn: worth", x.of(2, 2), 5);
  }

  /** A text with its FAULT: nothing changes, but that the tape is empty. */
  private static void fault(String text, int place) {
    FedHen x = Check.hen(Check.CORN);
    Check.due("fault of '" + text + "'", Check.text(x, text), -1 - place);
    Check.due("no new things", x.count(1), 1);
    Check.due("room stays", x.now(5), 12);
    Check.due("hunger stays", x.now(6), 2);
    Check.due("the tape is empty", x.count(5), 0);
    Check.due("no finding", x.status(-1), 0);
  }

  private static void promise35Faults() {
    fault("silver", 0);
    fault("  goldbulk 3", 2);
    fault("golds", 0);
    fault("gol", 0);
    fault("bold", 0);
    fault("golda", 0);
    fault("goldz", 0);
    fault("zunger 3", 0);
    fault("gold zulk 3", 5);
    fault("Gold", 0);
    fault(";gold", 0);
    fault("7", 0);
    fault("bulk 3", 0);
    fault("of 1", 0);
    fault("gold bulk 0", 10);
    fault("gold bulk 10", 10);
    fault("gold worth 100", 11);
    fault("gold worth 1000", 11);
    fault("gold worth 4294967296", 11);
    fault("gold of 2", 8);
    fault("gold bulk worth 3", 10);
    fault("gold worth 3 bulk 3", 13);
    fault("gold of 1 worth 3", 10);
    fault("gold of 1 of 1", 10);
    fault("gold 3", 5);
    fault("gold ring", 5);
    fault("room 5 6", 7);
    fault("room 5;room 0", 12);
    fault("room 41", 5);
    fault("hunger 3;hunger 10", 16);
    fault("room -1", 5);
    fault("room;3", 4);
    fault("gold;;ring", 5);
    fault("gold,ring", 4);
    fault("gold\tring", 4);
    fault("gold" + (char) 233, 4);
    fault("gold;ring;room 3 x", 17);
    fault("gold" + (char) 0, 4);
  }

  private static void promise35EndsTooEarly() {
    fault("", 0);
    fault("   ", 3);
    fault("gold;", 5);
    fault("gold;  ", 7);
    fault("gold bulk", 9);
    fault("gold bulk ", 10);
    fault("gold worth", 10);
    fault("gold of", 7);
    fault("room", 4);
    fault("hunger ", 7);
  }

  private static void promise35Eleventh() {
    FedHen x = Check.hen(0, 0, 0, 0, 0, 0, 0, 0);
    Check.due("the 11th thing", Check.text(x, "corn;room 5;corn; corn bulk x"), -1 - 18);
    Check.due("no new things", x.count(1), 8);
    Check.due("an earlier fault", Check.text(x, "corn;corn bulk 0;corn"), -1 - 15);
    Check.due("up to 10", Check.text(x, "corn;gold"), 2);
    Check.due("things", x.count(1), 10);
    Check.due("the 11th at once", Check.text(x, "room 6;thing"), -1 - 7);
    Check.due("room without things", Check.text(x, "room 6"), 1);
  }

  private static void promise35FullTape() {
    fault(";".repeat(120), 0);
    fault("room 5" + ";".repeat(114), 7);
    fault("room 5;".repeat(17) + "x", 119);
    fault("gold" + " ".repeat(114) + "of", 120);
    fault(" ".repeat(119) + "1", 119);
    fault(" ".repeat(120), 120);
    FedHen x = new FedHen();
    Check.due("a WORD at the end", Check.text(x, " ".repeat(116) + "deed"), 1);
    Check.due("a NUMBER at the end", Check.text(x, "hunger" + " ".repeat(113) + "7"), 1);
    Check.due("hunger", x.now(6), 7);
    Check.due("many ITEMS", Check.text(x, "room1;".repeat(19) + "room30"), 20);
    Check.due("room", x.now(5), 30);
  }
}
