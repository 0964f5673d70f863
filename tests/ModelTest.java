import java.util.ArrayList;
import java.util.List;
import java.util.Random;

/** All promises: long runs of calls by chance (always the same), each answer against the Model's. */
public final class ModelTest {
  private static final int RUNS = 400;
  // A text takes some 40 calls at most, and 512 calls are promised.
  private static final int MOST_CALLS = 470;
  private static final int METHODS = 56;
  private static final int[] EXTREMES = {-1, 10, 41, 61, 100, 105, 9999, 1 << 10, -1000001, Integer.MIN_VALUE,
      Integer.MAX_VALUE, Integer.MAX_VALUE - 3};
  private static final String[] KINDS = {"thing", "corn", "metal", "gold", "ring", "sand", "deed"};
  private static final String SLIPS = " ;;09azbulk-\u00e9";

  private final Random chance;
  private final FedHen hen = new FedHen();
  private final Model model = new Model();
  private String pending = "";
  private int calls = 0;

  private ModelTest(int run) {
    chance = new Random(run);
  }

  public static void main(String[] args) {
    for (int run = 0; run < RUNS; run++) {
      new ModelTest(run).go(run);
    }
    Check.end();
  }

  private void go(int run) {
    List<String> rows = new ArrayList<>();
    boolean late = run % 8 == 7;
    for (int call = 0; calls < MOST_CALLS; call++) {
      String row;
      if (late && call < 167) {
        row = both(9, new int[] {call < 166 ? 60 : 1 + below(39), 0, 0, 0, 0});
      } else {
        int method = rows.size() % 170 < 10 ? 0 : below(METHODS);
        row = both(method, values(method));
      }
      rows.add(row);
      if (row.endsWith("!")) {
        rows.subList(Math.max(0, rows.size() - 40), rows.size()).forEach(System.out::println);
        Check.due("run " + run + ", its call " + call, 1, 0);
        return;
      }
    }
  }

  private int below(int n) {
    return chance.nextInt(n);
  }

  private int days() {
    return below(3) == 0 ? below(62) : below(12);
  }

  /** A set of THINGS, mostly one of those that are OUT. */
  private int set() {
    int set = below(1 << 10) & below(1 << 10);
    if (below(6) == 0) {
      return set;
    }
    int fit = 0;
    for (int t = 0; t < model.w.things.size(); t++) {
      fit |= model.w.out(t) ? 1 << t : 0;
    }
    return set & fit;
  }

  private int thing() {
    return below(Math.max(1, model.w.things.size()));
  }

  private int[] values(int method) {
    int[] v = {thing(), below(5), below(4), below(3), below(4)};
    switch (method) {
      case 0: v[0] = below(7); break;
      case 1: v[1] = below(10); break;
      case 2: v[1] = below(4); v[2] = new int[] {below(7), 1 + below(9), below(100), below(2)}[v[1]]; break;
      case 3: v[0] = below(2); v[1] = v[0] == 0 ? 1 + below(40) : below(4) == 0 ? below(10) : below(3); break;
      case 6: v[0] = below(8); break;
      case 7: v[0] = below(14); v[1] = below(3); break;
      case 8: v[0] = 1 + below(4); break;
      case 9: v[0] = 1 + below(3); break;
      case 10: v[0] = below(8); break;
      case 11: v[0] = days(); break;
      case 14: case 15: case 16: case 43: v[0] = set(); v[1] = days(); break;
      case 17: case 18: case 20: v[0] = days(); break;
      case 19: v[1] = days(); break;
      case 21: case 22: v[0] = 1 + below(4); v[1] = v[0] + below(12); break;
      case 23: v[0] = below(2); v[1] = days(); break;
      case 24: case 25: v[0] = below(8) == 0 ? 0 : below(60); v[1] = days(); break;
      case 26: v[0] = below(2); break;
      case 27: v[0] = set(); break;
      case 28: v[0] = days(); break;
      case 29: v[0] = 1 + below(12); break;
      case 30: v[0] = chance.nextInt(); break;
      case 31: case 32: case 33: break;
      case 34: v[0] = below(10); v[1] = below(8) == 0 ? -1 : thing(); break;
      case 35: v[0] = below(10); v[1] = below(7); break;
      case 36: v[0] = below(4); v[1] = below(9) == 0 ? 0 : below(3) == 0 ? 16 : 8; v[2] = below(12); break;
      case 37: v[0] = below(4); v[1] = below(12); v[2] = below(4) == 0 ? chance.nextInt() : below(100); break;
      case 38: v[0] = below(4); v[2] = below(4); break;
      case 39: case 40: v[0] = below(4); break;
      case 44: v[0] = below(8); break;
      case 45: v[0] = below(8) - 1; break;
      default: break;
    }
    if (below(12) == 0 && method != 30) {
      v[below(3)] = EXTREMES[below(EXTREMES.length)];
    }
    return v;
  }

  private String both(int method, int[] v) {
    calls++;
    int due = ask(method, v, true);
    int got = ask(method, v, false);
    return "method " + method + " of " + v[0] + " " + v[1] + " " + v[2] + " " + v[3] + " " + v[4] + ": " + got
        + (got == due ? "" : ", due is " + due + "!");
  }

  private int ask(int method, int[] v, boolean m) {
    int a = v[0];
    int b = v[1];
    int c = v[2];
    switch (method) {
      case 0: return m ? model.thing(a) : hen.thing(a);
      case 1: return m ? model.of(a, b) : hen.of(a, b);
      case 2: return m ? model.change(a, b, c) : hen.change(a, b, c);
      case 3: return m ? model.rule(a, b) : hen.rule(a, b);
      case 4: case 46: case 47: case 48: case 49: return m ? model.fed(a) : hen.fed(a);
      case 5: case 50: case 51: return m ? model.home(a) : hen.home(a);
      case 6: return m ? model.crop(a) : hen.crop(a);
      case 7: return m ? model.egg(a, b) : hen.egg(a, b);
      case 8: return m ? model.now(a) : hen.now(a);
      case 9: return m ? model.days(a) : hen.days(a);
      case 10: return m ? model.now(a) : hen.now(a);
      case 11: return m ? model.ahead(a, b) : hen.ahead(a, b);
      case 12: return m ? model.when(a) : hen.when(a);
      case 13: return m ? model.worth(a) : hen.worth(a);
      case 14: return m ? model.plan(a, b) : hen.plan(a, b);
      case 15: return m ? model.best(a, b) : hen.best(a, b);
      case 16: return m ? model.ith(a, b, c) : hen.ith(a, b, c);
      case 17: return m ? model.next(a) : hen.next(a);
      case 18: return m ? model.foes(a) : hen.foes(a);
      case 19: return m ? model.kindFor(a, b) : hen.kindFor(a, b);
      case 20: return m ? model.rid(a) : hen.rid(a);
      case 21: return m ? model.turns(a, b) : hen.turns(a, b);
      case 22: return m ? model.first(a, b) : hen.first(a, b);
      case 23: return m ? model.share(a, b) : hen.share(a, b);
      case 24: return m ? model.fits(a, b) : hen.fits(a, b);
      case 25: return m ? model.may(a, b) : hen.may(a, b);
      default: return askMore(method, v, m);
    }
  }

  private int askMore(int method, int[] v, boolean m) {
    int a = v[0];
    int b = v[1];
    int c = v[2];
    switch (method) {
      case 26: return m ? model.laid(a) : hen.laid(a);
      case 27: return m ? model.room(a) : hen.room(a);
      case 28: return m ? model.starves(a) : hen.starves(a);
      case 29: return m ? model.lent(a) : hen.lent(a);
      case 30: return m ? model.seed(a) : hen.seed(a);
      case 31: return m ? model.feed(a * 77777777 + b, c) : hen.feed(a * 77777777 + b, c);
      case 32: return m ? model.wipe() : hen.wipe();
      case 33: return text(m);
      case 34: return m ? model.hold(a, b) : hen.hold(a, b);
      case 35: return m ? model.as(a, b) : hen.as(a, b);
      case 36: return m ? model.sheet(a, b, c) : hen.sheet(a, b, c);
      case 37: return m ? model.write(a, b, c) : hen.write(a, b, c);
      case 38: return m ? model.copy(a, b, c, v[3], v[4]) : hen.copy(a, b, c, v[3], v[4]);
      case 39: return m ? model.load(a) : hen.load(a);
      case 40: return m ? model.judge(a) : hen.judge(a);
      case 41: return m ? model.image() : hen.image();
      case 42: return m ? model.undo() : hen.undo();
      case 43: return m ? model.best(a, b) : hen.best(a, b);
      case 44: return m ? model.count(a) : hen.count(a);
      case 45: return m ? model.status(a) : hen.status(a);
      case 52: return m ? model.spoils() : hen.spoils();
      case 53: return m ? model.tear() : hen.tear();
      case 54: return m ? model.undo() : hen.undo();
      default: return m ? model.spoils() : hen.spoils();
    }
  }

  /** Feeds a text, mostly a right one, and has it read. */
  private int text(boolean m) {
    if (m) {
      pending = slip(items());
    }
    Rows.tape(m ? model : hen, pending);
    calls += pending.length() / 4 + 1;
    return m ? model.text() : hen.text();
  }

  private String items() {
    StringBuilder all = new StringBuilder();
    for (int i = below(4); i >= 0; i--) {
      int sort = below(6);
      if (sort == 0) {
        all.append("room ").append(1 + below(41));
      } else if (sort == 1) {
        all.append("hunger").append(below(11));
      } else {
        all.append(KINDS[below(7)]);
        all.append(below(2) == 0 ? "" : " bulk " + (1 + below(9)));
        all.append(below(2) == 0 ? "" : " worth " + below(101));
        all.append(below(2) == 0 ? "" : "  of " + below(2));
      }
      all.append(i > 0 ? below(2) == 0 ? ";" : " ; " : "");
    }
    return all.toString();
  }

  private String slip(String text) {
    if (below(2) == 0) {
      return text;
    }
    int at = below(text.length() + 1);
    int behind = Math.min(text.length(), at + below(3));
    return text.substring(0, at) + SLIPS.charAt(below(SLIPS.length())) + text.substring(behind);
  }
}
