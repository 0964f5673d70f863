import java.util.ArrayList;
import java.util.List;

/** The bounds that the Terms' 3. A TEXT and promises 33 to 35 name: each way to fail, the end of the tape. */
public final class TextEdgesTest {
  /** The TOKENS of a TEXT of four ITEMS. */
  private static final String[] TOKENS = {"thing", "bulk", "3", "worth", "50", "of", "1", ";", "room", "20", ";",
      "hunger", "3", ";", "sand"};
  /** How many ITEMS there are behind so many TOKENS; 0: the TEXT can't end there. */
  private static final int[] ITEMS = {0, 1, 0, 1, 0, 1, 0, 1, 0, 0, 2, 0, 0, 3, 0, 4};

  public static void main(String[] args) {
    promise33Feed();
    promise33BytesAreCut();
    promise34Wipe();
    promise35Numbers();
    promise35FarNumbers();
    promise35EndsEarly();
    promise35EachTokenElse();
    promise35EachByte();
    promise35TokensAsLongAsCanBe();
    promise35ElevenThings();
    promise35EmptyTape();
    promise35FullTape();
    promise35ItemByItem();
    promise35FaultChangesNothing();
    Check.end();
  }

  /** The answer of text() to a text on a new hen; with a FAULT, no ITEM of it holds. */
  private static FedHen told(String text, int due) {
    FedHen x = new FedHen();
    int has = Rows.tape(x, text);
    Check.due("bytes of '" + text + "'", has, text.length());
    Rows.due("'" + text + "'", x, "text() = " + due, "count(5) = 0", "status(-1) = 0");
    if (due < 0) {
      Rows.due("'" + text + "'", x, "count(1) = 0", "now(5) = 12", "now(6) = 2");
    }
    return x;
  }

  private static void fault(String text, int place) {
    told(text, -1 - place);
  }

  private static void promise33Feed() {
    List<String> to116 = List.of("tape " + "gold".repeat(29));
    Rows.after(to116, "116 bytes", "count(5) = 116", "feed(0, 4) = 120", "feed(0, 1) = FULL", "count(5) = 120");
    Rows.after(Hens.and(to116, "feed(0, 1)"), "117 bytes", "feed(0, 4) = FULL", "count(5) = 117", "feed(0, 3) = 120");
    Rows.after(Hens.and(to116, "feed(0, 2)"), "118 bytes", "feed(0, 4) = FULL", "feed(0, 3) = FULL", "count(5) = 118",
        "feed(0, 2) = 120", "feed(0, 2) = FULL");
    Rows.after(Hens.and(to116, "feed(0, 3)"), "119 bytes", "feed(0, 4) = FULL", "feed(0, 3) = FULL",
        "feed(0, 2) = FULL", "count(5) = 119", "feed(0, 1) = 120", "feed(0, 1) = FULL", "feed(0, 0) = BEYOND",
        "feed(0, 5) = BEYOND", "feed(0, -1) = BEYOND", "feed(0, MIN) = BEYOND", "feed(0, MAX) = BEYOND",
        "status(0) = 5", "status(1) = 4");
    Rows.after(List.of(), "feed", "feed(0, 0) = BEYOND", "feed(0, 1) = 1", "feed(0, 4) = 5", "feed(0, 5) = BEYOND",
        "feed(0, -1) = BEYOND", "feed(0, MIN) = BEYOND", "feed(0, MAX) = BEYOND", "count(5) = 5");
    // A refused one leaves the tape as it was.
    Rows.after(List.of("tape room 5" + " ".repeat(113)), "119 bytes, a refused one, a digit", "count(5) = 119",
        "feed(" + ('9' << 8 | '9') + ", 2) = FULL", "feed(" + (int) '9' + ", 1) = 120", "text() = -120");
    Rows.after(List.of("tape room " + " ".repeat(114)), "119 bytes, then the digit", "feed(12345, 2) = FULL",
        "feed(" + (int) '9' + ", 1) = 120", "text() = 1", "now(5) = 9");
  }

  /** The n lowest bytes, the highest of these first; those above them don't count. */
  private static void promise33BytesAreCut() {
    int room = 'r' << 24 | 'o' << 16 | 'o' << 8 | 'm';
    String seven = "feed(" + ('1' << 8 | '7') + ", 2)";
    Rows.after(List.of("feed(" + room + ", 4)"), "two bytes", seven + " = 6", "text() = 1", "now(5) = 17");
    Rows.after(List.of("feed(" + room + ", 4)"), "one byte", "feed(" + ('1' << 8 | '7') + ", 1) = 5", "text() = 1",
        "now(5) = 7");
    Rows.after(List.of("feed(" + room + ", 4)"), "three bytes",
        "feed(" + (-1 << 24 | '1' << 16 | '7' << 8 | ';') + ", 3) = 7", "feed(" + room + ", 4) = 11",
        "feed(" + (Integer.MIN_VALUE | '8') + ", 1) = 12", "text() = 2", "now(5) = 8");
    Rows.after(List.of(), "bytes above 127", "feed(-1, 4) = 4", "text() = -1", "feed(-1, 1) = 1", "text() = -1",
        "feed(MIN, 4) = 4", "text() = -1", "feed(MAX, 4) = 4", "text() = -1",
        "feed(" + ('a' + 128) + ", 1) = 1", "text() = -1");
  }

  private static void promise34Wipe() {
    Rows.after(List.of("tape " + "x".repeat(120)), "wipe of the full tape", "wipe() = 120", "wipe() = 0",
        "count(5) = 0", "feed(0, 4) = 4", "wipe() = 4");
    Rows.after(List.of("tape room"), "wipe in a word", "wipe() = 4", "tape  7 = 2", "text() = -2", "now(5) = 12");
  }

  private static void promise35Numbers() {
    int[][] bounds = {{1, 9}, {0, 99}, {0, 1}, {1, 40}, {0, 9}};
    String[] begins = {"thing bulk ", "thing worth ", "thing of ", "room ", "hunger "};
    String[] asked = {"of(0, 1)", "of(0, 2)", "of(0, 3)", "now(5)", "now(6)"};
    for (int i = 0; i < begins.length; i++) {
      for (int v = 0; v <= 120; v++) {
        if (v >= bounds[i][0] && v <= bounds[i][1]) {
          FedHen x = told(begins[i] + v, 1);
          Rows.due(begins[i] + v, x, asked[i] + " = " + v);
        } else {
          fault(begins[i] + v, begins[i].length());
        }
      }
      for (int v : new int[] {128, 256, 257, 512, 998, 999, 1000, 1001, 1024, 9999}) {
        fault(begins[i] + v, begins[i].length());
      }
      fault(begins[i] + "-1", begins[i].length());
      fault(begins[i] + "+1", begins[i].length());
    }
  }

  /** NUMBERS that would be small ones if they ran over, and small ones with many 0s ahead. */
  private static void promise35FarNumbers() {
    String[] far = {"2147483648", "4294967295", "4294967296", "4294967297", "4294967301", "8589934593",
        "18446744073709551616", "18446744073709551617", "340282366920938463463374607431768211457"};
    for (String number : far) {
      for (String begin : new String[] {"thing bulk ", "thing worth ", "thing of ", "room ", "hunger "}) {
        fault(begin + number, begin.length());
      }
    }
    fault("room " + "9".repeat(115), 5);
    fault("hunger 1" + "0".repeat(112), 7);
    Rows.due("0s ahead", told("room " + "0".repeat(113) + "40", 1), "now(5) = 40");
    fault("room " + "0".repeat(113) + "41", 5);
    fault("room " + "0".repeat(115), 5);
    Rows.due("0s alone", told("hunger " + "0".repeat(113), 1), "now(6) = 0");
  }

  private static String first(int n) {
    return String.join(" ", List.of(TOKENS).subList(0, n));
  }

  private static void promise35EndsEarly() {
    for (int n = 0; n <= TOKENS.length; n++) {
      String text = first(n);
      if (ITEMS[n] > 0) {
        told(text, ITEMS[n]);
        told(text + "   ", ITEMS[n]);
      } else {
        fault(text, text.length());
        fault(text + "   ", text.length() + 3);
      }
    }
  }

  /** Puts TOKENS that can't stand there in the place of each TOKEN, and between all. */
  private static void promise35EachTokenElse() {
    for (int n = 0; n <= TOKENS.length; n++) {
      String begin = n == 0 ? "" : first(n) + " ";
      for (String other : new String[] {"!", "x", "things", "thin", "bulks", "THING", "-", ",", ":", "\u00e9"}) {
        fault(begin + other, begin.length());
        fault(begin + other + " " + (n < TOKENS.length ? TOKENS[n] : ";"), begin.length());
      }
      boolean item = n == 0 || TOKENS[n - 1].equals(";");
      boolean number = n > 0 && List.of("bulk", "worth", "of", "room", "hunger").contains(TOKENS[n - 1]);
      if (!number) {
        fault(begin + "1", begin.length());
      }
      if (item || number) {
        fault(begin + ";", begin.length());
        fault(begin + "bulk 1", begin.length());
        fault(begin + "worth 1", begin.length());
        fault(begin + "of 1", begin.length());
      }
      if (!item) {
        fault(begin + "thing", begin.length());
        fault(begin + "gold", begin.length());
        fault(begin + "room 3", begin.length());
        fault(begin + "hunger 3", begin.length());
      }
    }
    fault("thing worth 3 bulk 3", 14);
    fault("thing of 1 bulk 3", 11);
    fault("thing of 1 worth 3", 11);
    fault("thing bulk 3 bulk 3", 13);
    fault("thing worth 3 worth 3", 14);
    fault("thing of 1 of 1", 11);
    fault("room 3 of 1", 7);
    fault("hunger 3 worth 1", 9);
    fault("room 3 bulk 1", 7);
  }

  /** Each byte alone, and behind a WORD, a NUMBER, a SIGN. */
  private static void promise35EachByte() {
    for (int b = 0; b <= 255; b++) {
      String s = String.valueOf((char) b);
      boolean letter = b >= 'a' && b <= 'z';
      boolean digit = b >= '0' && b <= '9';
      fault(s, b == ' ' ? 1 : 0);
      fault("gold;" + s, b == ' ' ? 6 : 5);
      if (b == ' ') {
        told("gold" + s, 1);
        told("room 3" + s, 1);
      } else if (b == ';') {
        fault("gold" + s, 5);
        fault("room 3" + s, 7);
      } else {
        fault("gold" + s, letter ? 0 : 4);
        if (digit) {
          told("room 3" + s, 1);
        } else {
          fault("room 3" + s, 6);
        }
      }
    }
    fault("room 4" + (char) 0, 6);
    fault("room 41", 5);
  }

  private static void promise35TokensAsLongAsCanBe() {
    Rows.due("no blanks", told("gold bulk3worth50of1;room20;hunger3", 3), "of(0, 1) = 3", "of(0, 2) = 50",
        "of(0, 3) = 1", "now(5) = 20", "now(6) = 3");
    Rows.due("blanks", told("   gold   bulk   3   ;   room   20   ", 2), "of(0, 1) = 3", "now(5) = 20");
    fault("goldbulk 3", 0);
    fault("goldring", 0);
    fault("gold bulkworth 3", 5);
    fault("room2 0", 6);
    fault("room 2 0", 7);
    fault("gol d", 0);
    fault("hun ger 3", 0);
    fault("room3of1", 5);
    fault("gold ;; ring", 6);
    fault("gold\nring", 4);
  }

  private static void promise35ElevenThings() {
    List<String> nine = new ArrayList<>();
    for (int t = 0; t < 9; t++) {
      nine.add("thing(0)");
    }
    Rows.after(Hens.and(nine, "tape gold;room 7"), "the 10th thing", "text() = 2", "count(1) = 10", "of(9, 0) = 3",
        "now(5) = 7");
    Rows.after(Hens.and(nine, "tape gold; ring"), "the 11th thing", "text() = -7", "count(1) = 9", "count(5) = 0");
    Rows.after(Hens.and(nine, "tape gold;ring bulk 0"), "the 11th thing ahead of its number", "text() = -6",
        "count(1) = 9");
    Rows.after(Hens.and(nine, "tape gold bulk 0;ring"), "a number ahead of the 11th thing", "text() = -11",
        "count(1) = 9");
    Rows.after(Hens.and(nine, "tape gold;room 7;ring"), "room ahead of the 11th thing", "text() = -13", "now(5) = 12",
        "count(1) = 9");
    List<String> ten = Hens.and(nine, "thing(0)");
    Rows.after(Hens.and(ten, "tape thing"), "the 11th thing at once", "text() = -1", "count(1) = 10");
    Rows.after(Hens.and(ten, "tape   deed x"), "the 11th thing behind blanks", "text() = -3", "count(1) = 10");
    Rows.after(Hens.and(ten, "tape room 7;hunger 7"), "no thing", "text() = 2", "now(5) = 7", "now(6) = 7");
    String all = "ring;".repeat(10);
    Rows.due("10 things", told(all.substring(0, 49), 10), "count(1) = 10", "of(9, 0) = 4", "of(10, 0) = BEYOND");
    fault(all + "ring", 50);
    fault(all + "room 3;sand;!", 57);
    fault(all, 50);
  }

  private static void promise35EmptyTape() {
    Rows.after(List.of(), "the empty tape", "text() = -1", "text() = -1", "status(-1) = 0", "feed(32, 1) = 1",
        "text() = -2", "text() = -1", "count(5) = 0");
    Rows.after(List.of("tape room 7"), "the tape is empty then", "text() = 1", "count(5) = 0", "text() = -1",
        "wipe() = 0", "feed(0, 4) = 4");
    Rows.after(List.of("tape room x"), "with a fault, too", "text() = -6", "count(5) = 0", "text() = -1", "wipe() = 0");
  }

  private static void promise35FullTape() {
    told("room" + " ".repeat(115) + "7", 1);
    told("gold" + " ".repeat(116), 1);
    told(" ".repeat(116) + "gold", 1);
    fault("gold" + " ".repeat(115) + ";", 120);
    fault("gold" + " ".repeat(112) + "bulk", 120);
    fault("gold" + " ".repeat(115) + "7", 119);
    fault("gold" + " ".repeat(115) + "x", 119);
    fault(" ".repeat(120), 120);
    fault("x".repeat(120), 0);
    fault("7".repeat(120), 0);
    fault("room 3" + " ".repeat(113) + "!", 119);
    fault("!".repeat(120), 0);
    told("room1;".repeat(19) + "room40", 20);
    fault("room1;".repeat(20), 120);
    told("room1 ;".repeat(16) + "hunger 9", 17);
  }

  /** Each ITEM goes behind the one ahead of it; what is IN, what it is like and all else stay. */
  private static void promise35ItemByItem() {
    Rows.due("the last one counts", told("room 1;room 40;room 5;hunger 9;hunger 0", 5), "now(5) = 5", "now(6) = 0");
    Rows.after(List.of("thing(4)", "fed(0)", "days(2)", "tape deed worth 7 of 1;room 1;hunger 9;sand bulk 9"),
        "what is in stays", "text() = 4", "now(1) = 1", "of(0, 5) = 2", "of(0, 4) = 1", "crop(0) = 0", "of(1, 0) = 6",
        "of(1, 1) = 2", "of(1, 2) = 7", "of(1, 3) = 1", "of(1, 4) = 0", "of(2, 0) = 5", "of(2, 1) = 9", "of(2, 2) = 10",
        "of(2, 3) = 0", "now(0) = 2", "now(5) = 1", "now(6) = 9", "worth(0) = 0", "fed(1) = FULL", "days(3) = 0");
  }

  /** Beside a hen whose tape was wiped instead. */
  private static void promise35FaultChangesNothing() {
    for (String text : new String[] {"room 1;hunger 9;gold;ring;!", "gold bulk 9 worth 99 of 1;room 0", "room 3;",
        "x"}) {
      List<String> setup = List.of("thing(4)", "thing(1)", "fed(0)", "days(1)", "hold(3, 1)", "image()", "fed(1)",
          "seed(8)", "sheet(0, 8, 3)", "tape " + text);
      FedHen x = Rows.make(setup);
      FedHen twin = Rows.make(setup);
      Check.due("a fault", x.text() < 0 ? 1 : 0, 1);
      twin.wipe();
      Refused.same("status behind a fault", Told.statusOf(x), Told.statusOf(twin));
      Refused.same("behind a fault", Told.of(x), Told.of(twin));
    }
  }
}
