/** Promises 36 to 42: spots, sheets. */
public final class SheetsTest {
  public static void main(String[] args) {
    promise36Hold();
    promise37As();
    promise38Sheet();
    promise39Write();
    promise40Copy();
    promise40Together();
    promise41Load();
    promise42Judge();
    Check.end();
  }

  private static void promise36Hold() {
    FedHen x = Check.hen(0, 1);
    Check.due("hold", x.hold(0, 1), 1);
    Check.due("hold", x.hold(9, 0), 1);
    Check.due("spots", x.count(7), 2);
    Check.due("hold nothing", x.hold(0, -1), 1);
    Check.due("spots", x.count(7), 1);
    Check.due("as nothing", x.as(0, 0), Check.MISSING);
    int[][] wrong = {{-1, 0}, {10, 0}, {0, 2}, {0, -2}, {Integer.MAX_VALUE, 0}, {0, Integer.MIN_VALUE}};
    for (int[] w : wrong) {
      Check.due("hold beyond", x.hold(w[0], w[1]), Check.BEYOND);
    }
    Check.due("it holds what it held", x.as(9, 0), 0);
  }

  private static void promise37As() {
    FedHen x = Check.hen(0, 1, 2, 3, 4, 5, 6);
    int[] above = {0, 0, 0, 2, 3, 1, 0};
    for (int kind = 0; kind <= 6; kind++) {
      x.hold(kind, kind);
      for (int as = 0; as <= 6; as++) {
        boolean is = as == 0 || as == kind || as == above[kind] || kind == 4 && as == 2;
        Check.due("as " + kind + " " + as, x.as(kind, as), is ? kind : Check.KIND);
      }
    }
    Check.due("as of no spot", x.as(-1, 0), Check.BEYOND);
    Check.due("as of no spot", x.as(10, 0), Check.BEYOND);
    Check.due("as of no kind", x.as(0, 7), Check.BEYOND);
    Check.due("BEYOND ahead of MISSING", x.as(9, -1), Check.BEYOND);
    Check.due("MISSING", x.as(9, 6), Check.MISSING);
    x.change(4, 0, Check.SAND);
    Check.due("its kind now", x.as(4, Check.CORN), 4);
  }

  private static void promise38Sheet() {
    FedHen x = new FedHen();
    Check.due("sheet of 40", x.sheet(0, 8, 40), 40);
    Check.due("its last number", x.write(0, 39, 1), 1);
    Check.due("sheet of 0", x.sheet(3, 32, 0), 0);
    Check.due("it is not MISSING", x.write(3, 0, 1), Check.BEYOND);
    Check.due("sheet MISSING", x.sheet(0, 0, 40), 0);
    Check.due("it is", x.write(0, 0, 1), Check.MISSING);
    Check.due("sheet of 16 bits", x.sheet(1, 16, 3), 3);
    int[][] wrong = {{-1, 8, 3}, {4, 8, 3}, {0, 1, 3}, {0, 64, 3}, {0, -8, 3}, {4, 8, -1}, {0, 7, -1},
        {0, 8, 41}, {0, 0, 41}, {0, 8, Integer.MAX_VALUE}};
    for (int[] w : wrong) {
      Check.due("sheet beyond", x.sheet(w[0], w[1], w[2]), Check.BEYOND);
    }
    Check.due("sheet of -1", x.sheet(1, 8, -1), Check.SIZE);
    Check.due("MISSING one of -1", x.sheet(1, 0, -1), Check.SIZE);
    Check.due("sheet of the least", x.sheet(1, 32, Integer.MIN_VALUE), Check.SIZE);
    Check.due("it stays", x.write(1, 2, 1), 1);
    x.thing(0);
    x.thing(0);
    x.write(1, 0, 5);
    x.write(1, 1, 6);
    x.sheet(1, 16, 3);
    Check.due("all 0 again", x.load(1), 2);
    Check.due("worth 0", x.of(0, 2), 0);
    Check.due("worth 1", x.of(1, 2), 0);
  }

  /** What number 0 of a sheet is, told by judge() after a write of v: does it stand for want? */
  private static void wrote(int bits, int v, int want) {
    FedHen x = Check.sated(Check.THING);
    x.sheet(2, bits, 1);
    Check.due("write " + v, x.write(2, 0, v), 1);
    if (want >= 0) {
      Check.due("load of " + v + " in " + bits, x.load(2), 1);
      Check.due("worth of " + v + " in " + bits, x.of(0, 2), want);
    } else {
      Check.due("load of " + v + " in " + bits, x.load(2), 0);
      Check.due("judge of " + v + " in " + bits, x.judge(2), want == -1 ? 0 : 1);
    }
  }

  private static void promise39Write() {
    wrote(8, 255, -1);
    wrote(8, 256 + 7, 7);
    wrote(8, 128, -128);
    wrote(8, 127 - 256 * 3 - 60, 67);
    wrote(16, 255, -255);
    wrote(16, 65535, -1);
    wrote(16, 65536 + 9, 9);
    wrote(32, 65535, -65535);
    wrote(32, -1, -1);
    wrote(32, 65536 + 9, -9);
    FedHen x = new FedHen();
    x.sheet(0, 8, 2);
    Check.due("write number 2", x.write(0, 2, 0), Check.BEYOND);
    Check.due("write number -1", x.write(0, -1, 0), Check.BEYOND);
    Check.due("write of no sheet", x.write(4, 0, 0), Check.BEYOND);
    Check.due("write of no sheet", x.write(-1, 0, 0), Check.BEYOND);
    Check.due("MISSING ahead of no such number", x.write(1, -1, 0), Check.MISSING);
  }

  private static void promise40Copy() {
    FedHen x = Check.hen(0, 0, 0, 0);
    x.sheet(0, 16, 4);
    x.sheet(1, 16, 3);
    x.sheet(2, 8, 4);
    for (int i = 0; i < 4; i++) {
      x.write(0, i, 11 + i);
    }
    Check.due("copy", x.copy(0, 2, 1, 1, 2), 2);
    Check.due("load", x.load(1), 3);
    int[] due = {0, 13, 14, 10};
    for (int t = 0; t < 4; t++) {
      Check.due("copied " + t, x.of(t, 2), due[t]);
    }
    Check.due("copy of none", x.copy(0, 4, 1, 3, 0), 0);
    Check.due("copy of a whole one", x.copy(1, 0, 0, 1, 3), 3);
    Check.due("copy onto a whole one", x.copy(0, 0, 1, 0, 3), 3);
    Check.due("copy of no sheet", x.copy(-1, 0, 3, 0, 1), Check.BEYOND);
    Check.due("copy to no sheet", x.copy(3, 0, 4, 0, 1), Check.BEYOND);
    Check.due("copy of a MISSING one", x.copy(3, 0, 1, 0, 9), Check.MISSING);
    Check.due("copy to a MISSING one", x.copy(1, 0, 3, 0, 9), Check.MISSING);
    Check.due("other bits, ahead of places", x.copy(0, 9, 2, 9, 9), Check.KIND);
    int[][] wrong = {{3, 0, 2}, {0, 2, 2}, {-1, 0, 1}, {0, -1, 1}, {0, 0, -1}, {5, 0, 0}, {0, 4, 0},
        {Integer.MAX_VALUE, 0, 1}, {0, Integer.MAX_VALUE, 1}, {1, 1, Integer.MAX_VALUE}};
    for (int[] w : wrong) {
      Check.due("copy beyond", x.copy(0, w[0], 1, w[1], w[2]), Check.BEYOND);
    }
  }

  /** Within one sheet the numbers come as they all were. */
  private static void promise40Together() {
    int[][] ways = {{0, 1, 11, 11, 12, 13}, {1, 0, 12, 13, 14, 14}};
    for (int[] way : ways) {
      FedHen x = Check.hen(0, 0, 0, 0);
      x.sheet(0, 32, 4);
      for (int i = 0; i < 4; i++) {
        x.write(0, i, 11 + i);
      }
      Check.due("copy within", x.copy(0, way[0], 0, way[1], 3), 3);
      x.load(0);
      for (int t = 0; t < 4; t++) {
        Check.due("copied within " + t, x.of(t, 2), way[2 + t]);
      }
    }
  }

  private static void promise41Load() {
    FedHen x = Check.hen(0, 0, 0);
    x.sheet(0, 8, 5);
    int[] numbers = {0, 99, 100, 5, 6};
    for (int i = 0; i < 5; i++) {
      x.write(0, i, numbers[i]);
    }
    Check.due("load up to 100", x.load(0), 2);
    int[] due = {0, 99, 10};
    for (int t = 0; t < 3; t++) {
      Check.due("worth " + t, x.of(t, 2), due[t]);
    }
    x.write(0, 2, -1);
    Check.due("load up to -1", x.load(0), 2);
    x.write(0, 2, 7);
    Check.due("load of 3 things", x.load(0), 3);
    Check.due("worth 2", x.of(2, 2), 7);
    x.sheet(0, 8, 0);
    Check.due("load of no numbers", x.load(0), 0);
    Check.due("load of no sheet", x.load(4), Check.BEYOND);
    Check.due("load of no sheet", x.load(-1), Check.BEYOND);
    Check.due("load of a MISSING one", x.load(1), Check.MISSING);
  }

  private static void promise42Judge() {
    FedHen x = Check.hen(Check.RING, Check.CORN);
    x.change(0, 2, 99);
    x.fed(0);
    x.fed(1);
    x.sheet(0, 8, 7);
    int[] numbers = {-1, -1, -1, -1, 104, 5, -1};
    for (int i = 0; i < 7; i++) {
      Check.due("judge: the first wrong one is " + i, x.judge(0), 1 + i);
      x.write(0, i, numbers[i]);
    }
    Check.due("judge: all do", x.judge(0), 0);
    Check.due("nothing changed", x.now(0), 0);
    x.rule(1, 3);
    Check.due("judge: hollow is 0", x.judge(0), 6);
    x.write(0, 5, 0);
    Check.due("judge: hollow is 0", x.judge(0), 0);
    x.sheet(0, 32, 0);
    Check.due("judge of no numbers", x.judge(0), 0);
    Check.due("judge of no sheet", x.judge(4), Check.BEYOND);
    Check.due("judge of no sheet", x.judge(-1), Check.BEYOND);
    Check.due("judge of a MISSING one", x.judge(1), Check.MISSING);
    FedHen late = Check.at(9990, "");
    Check.due("MISSING ahead of STATE", late.judge(0), Check.MISSING);
    late.sheet(0, 8, 9);
    Check.due("judge to the last day", late.judge(0), 1);
    late.sheet(0, 8, 10);
    Check.due("judge above the last day", late.judge(0), Check.STATE);
  }
}
