import java.nio.charset.StandardCharsets;

/** What the tests have in common: they count wrong answers and end with exit code 1 if there was one. */
final class Check {
  static final int BEYOND = -1000001;
  static final int FULL = -1000002;
  static final int KIND = -1000003;
  static final int NONE = -1000004;
  static final int STATE = -1000005;
  static final int MISSING = -1000006;
  static final int SIZE = -1000007;

  static final int THING = 0;
  static final int CORN = 1;
  static final int METAL = 2;
  static final int GOLD = 3;
  static final int RING = 4;
  static final int SAND = 5;
  static final int DEED = 6;

  private static int wrong = 0;

  private Check() {}

  static void due(String what, int got, int want) {
    if (got != want) {
      wrong++;
      System.out.println(what + " answered " + got + ", due is " + want);
    }
  }

  static void end() {
    if (wrong != 0) {
      System.out.println(wrong + " answers are not as due");
      System.exit(1);
    }
  }

  /** A new hen with THINGS of these kinds, all as at first else. */
  static FedHen hen(int... kinds) {
    FedHen x = new FedHen();
    for (int kind : kinds) {
      x.thing(kind);
    }
    return x;
  }

  /** A new hen with these THINGS, and HUNGER 0. */
  static FedHen sated(int... kinds) {
    FedHen x = hen(kinds);
    x.rule(1, 0);
    return x;
  }

  static void tape(FedHen x, String text) {
    for (byte b : text.getBytes(StandardCharsets.ISO_8859_1)) {
      x.feed(b, 1);
    }
  }

  static int text(FedHen x, String text) {
    x.wipe();
    tape(x, text);
    return x.text();
  }

  /** A new hen at a DAY, with THINGS told by a text. */
  static FedHen at(int day, String text) {
    FedHen x = new FedHen();
    int left = day;
    while (left > 0) {
      int n = Math.min(60, left);
      x.days(n);
      left -= n;
    }
    if (!text.isEmpty()) {
      text(x, text);
    }
    return x;
  }
}
