import java.util.ArrayList;
import java.util.List;
import java.util.function.Function;
import java.util.regex.Matcher;
import java.util.regex.Pattern;

/**
 * The document told once more, as plainly as can be and with the Java library, for ModelTest: it looks ahead on whole
 * copies and tries everything.
 */
final class Model {
  static final int BEYOND = 0;
  static final int FULL = 1;
  static final int KIND = 2;
  static final int NONE = 3;
  static final int STATE = 4;
  static final int MISSING = 5;
  static final int SIZE = 6;

  private static final List<String> KINDS = List.of("thing", "corn", "metal", "gold", "ring", "sand", "deed");
  private static final int[] PARENT = {-1, 0, 0, 2, 3, 1, 0};

  static final class Thing {
    int kind;
    int bulk = 2;
    int worth = 10;
    int owner;
    String how = "OUT";
    int days;
    int stain;

    Thing(int kind) {
      this.kind = kind;
    }

    Thing twin() {
      Thing t = new Thing(kind);
      t.bulk = bulk;
      t.worth = worth;
      t.owner = owner;
      t.how = how;
      t.days = days;
      t.stain = stain;
      return t;
    }
  }

  record Egg(int thing, int worth, int day, boolean hollow) {}

  static final class World {
    final List<Thing> things = new ArrayList<>();
    final List<Integer> crop = new ArrayList<>();
    final List<Egg> eggs = new ArrayList<>();
    final Integer[] spots = new Integer[10];
    int room = 12;
    int hunger = 2;
    int day;
    int z = 1;

    World twin() {
      World w = new World();
      for (Thing t : things) {
        w.things.add(t.twin());
      }
      w.crop.addAll(crop);
      w.eggs.addAll(eggs);
      System.arraycopy(spots, 0, w.spots, 0, 10);
      w.room = room;
      w.hunger = hunger;
      w.day = day;
      w.z = z;
      return w;
    }

    int bulk() {
      return crop.stream().mapToInt(t -> things.get(t).bulk).sum();
    }

    boolean canTake(int t) {
      return crop.size() < 8 && bulk() + things.get(t).bulk <= room;
    }

    boolean out(int t) {
      return things.get(t).how.equals("OUT");
    }

    void take(int t) {
      things.get(t).how = "IN";
      things.get(t).days = 0;
      things.get(t).stain = 0;
      crop.add(t);
    }

    Egg day() {
      for (int i = 0; i < crop.size(); i++) {
        Thing t = things.get(crop.get(i));
        t.days++;
        if (i > 0) {
          t.stain += stains(things.get(crop.get(i - 1)).kind);
        }
        if (i < crop.size() - 1) {
          t.stain += stains(things.get(crop.get(i + 1)).kind);
        }
        t.stain = Math.min(99, t.stain);
      }
      Egg egg = null;
      if (!crop.isEmpty() && things.get(crop.get(0)).days >= takes(things.get(crop.get(0)).kind)) {
        boolean hollow = bulk() < hunger;
        int number = crop.remove(0);
        Thing t = things.get(number);
        egg = new Egg(number, hollow ? 0 : left(t.kind, t.worth, t.stain), day, hollow);
        eggs.add(egg);
        t.how = "LAID";
      }
      day++;
      return egg;
    }

    List<Egg> days(int n) {
      return feeding(List.of(), n);
    }

    List<Egg> feeding(List<Integer> row, int n) {
      List<Egg> all = new ArrayList<>();
      for (int d = 0; d < n; d++) {
        if (d < row.size() && canTake(row.get(d))) {
          take(row.get(d));
        }
        Egg egg = day();
        if (egg != null) {
          all.add(egg);
        }
      }
      return all;
    }
  }

  World w = new World();
  private World image;
  private final List<Integer> tape = new ArrayList<>();
  private final int[][] sheets = new int[4][];
  private final int[] bits = new int[4];
  private final int[] found = new int[7];

  static int takes(int kind) {
    switch (kind) {
      case 0: return 3;
      case 1: return 1;
      case 2: return takes(0) + 1;
      case 4: return takes(3) + 1;
      case 5: return takes(1) + 4;
      default: return takes(PARENT[kind]);
    }
  }

  static int stains(int kind) {
    switch (kind) {
      case 0: return 1;
      case 1: return 0;
      case 2: return 2 * stains(0);
      case 3: return stains(2) - 1;
      case 5: return stains(1) + 2;
      case 6: return stains(0) + 3;
      default: return stains(PARENT[kind]);
    }
  }

  static int left(int kind, int worth, int stain) {
    switch (kind) {
      case 0: return worth > stain ? worth - stain : 0;
      case 1: return worth / 2;
      case 3: return worth > stain / 2 ? worth - stain / 2 : 0;
      case 4: return left(3, worth, stain) + 5;
      case 6: return stain == 0 ? worth : 0;
      default: return left(PARENT[kind], worth, stain);
    }
  }

  private int find(int which) {
    found[which]++;
    return -1000001 - which;
  }

  private static int sum(List<Egg> eggs) {
    return eggs.stream().mapToInt(Egg::worth).sum();
  }

  private boolean no(int thing) {
    return thing < 0 || thing >= w.things.size();
  }

  private static boolean not(int v, int least, int most) {
    return v < least || v > most;
  }

  private boolean late(int n) {
    return w.day + n > 9999;
  }

  private boolean strange(int set) {
    return set < 0 || set >= 1 << w.things.size();
  }

  private List<Integer> row(int set) {
    List<Integer> row = new ArrayList<>();
    for (int t = 0; t < 10; t++) {
      if ((set & 1 << t) != 0) {
        row.add(t);
      }
    }
    return row;
  }

  private boolean allOut(int set) {
    return row(set).stream().allMatch(w::out);
  }

  private List<Integer> outs() {
    List<Integer> all = new ArrayList<>();
    for (int t = 0; t < w.things.size(); t++) {
      if (w.out(t)) {
        all.add(t);
      }
    }
    return all;
  }

  private int brings(List<Integer> row, int n) {
    return sum(w.twin().feeding(row, n));
  }

  int thing(int kind) {
    if (not(kind, 0, 6)) return find(BEYOND);
    if (w.things.size() == 10) return find(FULL);
    w.things.add(new Thing(kind));
    return w.things.size() - 1;
  }

  int of(int thing, int what) {
    if (no(thing) || not(what, 0, 9)) return find(BEYOND);
    Thing t = w.things.get(thing);
    boolean in = t.how.equals("IN");
    int stain = in ? t.stain : 0;
    int[] all = {t.kind, t.bulk, t.worth, t.owner, List.of("OUT", "IN", "LAID").indexOf(t.how), in ? t.days : 0, stain,
        takes(t.kind), stains(t.kind), left(t.kind, t.worth, stain)};
    return all[what];
  }

  int change(int thing, int what, int v) {
    int[] least = {0, 1, 0, 0};
    int[] most = {6, 9, 99, 1};
    if (no(thing) || not(what, 0, 3) || not(v, least[what], most[what])) return find(BEYOND);
    int was = of(thing, what);
    Thing t = w.things.get(thing);
    if (what == 0) t.kind = v;
    if (what == 1) t.bulk = v;
    if (what == 2) t.worth = v;
    if (what == 3) t.owner = v;
    return was;
  }

  int rule(int what, int v) {
    if (not(what, 0, 1) || (what == 0 ? not(v, 1, 40) : not(v, 0, 9))) return find(BEYOND);
    int was = what == 0 ? w.room : w.hunger;
    if (what == 0) w.room = v;
    else w.hunger = v;
    return was;
  }

  int fed(int thing) {
    if (no(thing)) return find(BEYOND);
    if (!w.out(thing)) return find(STATE);
    if (!w.canTake(thing)) return find(FULL);
    w.take(thing);
    return w.crop.size();
  }

  private List<Egg> latest() {
    List<Egg> all = new ArrayList<>();
    for (int i = w.eggs.size() - 1; i >= 0 && all.size() < 12; i--) {
      all.add(w.eggs.get(i));
    }
    return all;
  }

  int home(int thing) {
    if (no(thing)) return find(BEYOND);
    if (!w.things.get(thing).how.equals("LAID")) return find(STATE);
    w.things.get(thing).how = "OUT";
    return latest().stream().filter(e -> e.thing() == thing).map(Egg::worth).findFirst().orElse(-1);
  }

  int crop(int i) {
    if (not(i, 0, 7)) return find(BEYOND);
    return i < w.crop.size() ? w.crop.get(i) : find(NONE);
  }

  int egg(int i, int what) {
    if (i < 0 || not(what, 0, 2)) return find(BEYOND);
    if (i >= latest().size()) return find(NONE);
    Egg e = latest().get(i);
    return new int[] {e.thing(), e.worth(), e.day()}[what];
  }

  int days(int n) {
    if (not(n, 1, 60)) return find(BEYOND);
    if (late(n)) return find(STATE);
    return sum(w.days(n));
  }

  int now(int what) {
    if (not(what, 0, 6)) return find(BEYOND);
    int hollow = (int) w.eggs.stream().filter(Egg::hollow).count();
    return new int[] {w.day, w.crop.size(), w.bulk(), w.eggs.size(), hollow, w.room, w.hunger}[what];
  }

  int ahead(int n, int what) {
    if (not(n, 0, 60) || not(what, 0, 4)) return find(BEYOND);
    if (late(n)) return find(STATE);
    World a = w.twin();
    List<Egg> eggs = a.days(n);
    int stain = a.crop.stream().mapToInt(t -> a.things.get(t).stain).sum();
    return new int[] {eggs.size(), sum(eggs), a.crop.size(), stain, a.crop.isEmpty() ? -1 : a.crop.get(0)}[what];
  }

  private int laidAhead(int thing, Function<Egg, Integer> told) {
    if (no(thing)) return find(BEYOND);
    if (!w.things.get(thing).how.equals("IN") || w.day > 9939) return find(STATE);
    for (Egg e : w.twin().days(60)) {
      if (e.thing() == thing) return told.apply(e);
    }
    return find(NONE);
  }

  int when(int thing) {
    return laidAhead(thing, e -> e.day() + 1 - w.day);
  }

  int worth(int thing) {
    return laidAhead(thing, Egg::worth);
  }

  int spoils() {
    if (w.day > 9939) return find(STATE);
    for (Egg e : w.twin().days(60)) {
      if (e.worth() < w.things.get(e.thing()).worth) return e.day() + 1 - w.day;
    }
    return find(NONE);
  }

  int plan(int set, int n) {
    if (not(n, 1, 60) || strange(set)) return find(BEYOND);
    if (!allOut(set) || late(n)) return find(STATE);
    return brings(row(set), n);
  }

  private void orders(List<Integer> from, List<Integer> begun, List<List<Integer>> all) {
    if (from.isEmpty()) {
      all.add(begun);
    }
    for (Integer t : from) {
      List<Integer> rest = new ArrayList<>(from);
      rest.remove(t);
      List<Integer> more = new ArrayList<>(begun);
      more.add(t);
      orders(rest, more, all);
    }
  }

  private List<Integer> bestOrder(int set, int n) {
    List<List<Integer>> all = new ArrayList<>();
    orders(row(set), List.of(), all);
    List<Integer> best = all.get(0);
    for (List<Integer> order : all) {
      if (brings(order, n) > brings(best, n)) best = order;
    }
    return best;
  }

  int best(int set, int n) {
    if (not(n, 1, 60) || strange(set) || row(set).size() > 5) return find(BEYOND);
    if (!allOut(set) || late(n)) return find(STATE);
    return brings(bestOrder(set, n), n);
  }

  int ith(int set, int n, int i) {
    if (not(n, 1, 60) || strange(set) || row(set).size() > 5 || not(i, 0, row(set).size() - 1)) return find(BEYOND);
    if (!allOut(set) || late(n)) return find(STATE);
    return bestOrder(set, n).get(i);
  }

  int next(int n) {
    if (not(n, 1, 60)) return find(BEYOND);
    if (late(n)) return find(STATE);
    int best = -1;
    for (int t : outs()) {
      if (brings(List.of(t), n) > brings(best < 0 ? List.of() : List.of(best), n)) best = t;
    }
    return best;
  }

  int foes(int n) {
    if (not(n, 1, 60)) return find(BEYOND);
    if (late(n)) return find(STATE);
    int pair = -1;
    int most = Integer.MIN_VALUE;
    for (int a : outs()) {
      for (int b : outs()) {
        int lost = brings(List.of(a), n) + brings(List.of(b), n) - brings(List.of(a, b), n);
        if (a < b && lost > most) {
          most = lost;
          pair = 10 * a + b;
        }
      }
    }
    return pair < 0 ? find(NONE) : pair;
  }

  int kindFor(int thing, int n) {
    if (no(thing) || not(n, 1, 60)) return find(BEYOND);
    if (!w.out(thing) || late(n)) return find(STATE);
    if (!w.canTake(thing)) return find(FULL);
    int[] worths = new int[7];
    int best = 0;
    for (int kind = 0; kind < 7; kind++) {
      World a = w.twin();
      a.things.get(thing).kind = kind;
      a.take(thing);
      worths[kind] = a.days(n).stream().filter(e -> e.thing() == thing).mapToInt(Egg::worth).sum();
      if (worths[kind] > worths[best]) best = kind;
    }
    return best;
  }

  int rid(int n) {
    if (not(n, 1, 60)) return find(BEYOND);
    if (late(n)) return find(STATE);
    int best = 0;
    int most = -1;
    for (int set = 0; set < 1 << w.things.size(); set++) {
      if (!w.crop.containsAll(row(set))) continue;
      World a = w.twin();
      a.crop.removeAll(row(set));
      int sum = sum(a.days(n));
      if (sum > most) {
        most = sum;
        best = set;
      }
    }
    return best;
  }

  private static int lead(World a, List<Egg> eggs) {
    return eggs.stream().mapToInt(e -> a.things.get(e.thing()).owner == 0 ? e.worth() : -e.worth()).sum();
  }

  /** What the game comes to, and what is fed first (-1: nothing). */
  private static int[] game(World a, int owner, int k, int n) {
    if (k == 0) return new int[] {lead(a, a.twin().days(n)), -1};
    int[] best = null;
    for (int t = -1; t < a.things.size(); t++) {
      if (t >= 0 && (a.things.get(t).owner != owner || !a.out(t) || !a.canTake(t))) continue;
      World b = a.twin();
      if (t >= 0) b.take(t);
      int sum = lead(b, b.days(1)) + game(b, 1 - owner, k - 1, n - 1)[0];
      if (best == null || (owner == 0 ? sum > best[0] : sum < best[0])) best = new int[] {sum, t};
    }
    return best;
  }

  int turns(int k, int n) {
    if (not(k, 1, 4) || not(n, k, 60)) return find(BEYOND);
    if (late(n)) return find(STATE);
    return game(w, 0, k, n)[0];
  }

  int first(int k, int n) {
    if (not(k, 1, 4) || not(n, k, 60)) return find(BEYOND);
    if (late(n)) return find(STATE);
    return game(w, 0, k, n)[1];
  }

  int share(int owner, int n) {
    if (not(owner, 0, 1) || not(n, 0, 60)) return find(BEYOND);
    if (late(n)) return find(STATE);
    return w.twin().days(n).stream().filter(e -> w.things.get(e.thing()).owner == owner).mapToInt(Egg::worth).sum();
  }

  private List<Integer> firstsOfRows(int v, int n) {
    List<Integer> firsts = new ArrayList<>();
    for (int a : outs()) {
      for (int b : outs()) {
        if (a == b) continue;
        w.twin().feeding(List.of(a, b), n).stream().filter(e -> e.thing() == a || e.thing() == b).findFirst()
            .filter(e -> e.worth() == v).ifPresent(e -> firsts.add(a));
      }
    }
    return firsts;
  }

  int fits(int v, int n) {
    if (not(v, 0, 104) || not(n, 1, 60)) return find(BEYOND);
    if (late(n)) return find(STATE);
    return firstsOfRows(v, n).size();
  }

  int may(int v, int n) {
    if (not(v, 0, 104) || not(n, 1, 60)) return find(BEYOND);
    if (late(n)) return find(STATE);
    return firstsOfRows(v, n).stream().distinct().mapToInt(t -> 1 << t).sum();
  }

  int laid(int owner) {
    if (not(owner, 0, 1)) return find(BEYOND);
    int set = 0;
    for (int t = 0; t < w.things.size(); t++) {
      if (w.things.get(t).how.equals("LAID") && w.things.get(t).owner == owner) set += 1 << t;
    }
    return set;
  }

  int room(int set) {
    if (strange(set)) return find(BEYOND);
    if (!allOut(set) || w.day > 9989) return find(STATE);
    for (int room = 1; room <= 40; room++) {
      World a = w.twin();
      a.room = room;
      a.feeding(row(set), 10);
      if (row(set).stream().noneMatch(a::out)) return room;
    }
    return find(NONE);
  }

  int starves(int n) {
    if (not(n, 1, 60)) return find(BEYOND);
    if (late(n)) return find(STATE);
    for (int hunger = 9; hunger > 0; hunger--) {
      World a = w.twin();
      a.hunger = hunger;
      if (a.days(n).stream().noneMatch(Egg::hollow)) return hunger;
    }
    return 0;
  }

  int lent(int n) {
    if (not(n, 1, 12)) return find(BEYOND);
    if (late(n) || w.things.isEmpty()) return find(STATE);
    int sum = 0;
    for (int d = 0; d < n; d++) {
      w.z = (int) (w.z * 1103515245L + 12345);
      int t = (int) ((w.z & 0xffffffffL) / 256 % w.things.size());
      if (w.out(t) && w.canTake(t)) w.take(t);
      sum += sum(w.days(1));
    }
    return sum;
  }

  int seed(int v) {
    int was = w.z;
    w.z = v;
    return was;
  }

  int feed(int bytes, int n) {
    if (not(n, 1, 4)) return find(BEYOND);
    if (tape.size() + n > 120) return find(FULL);
    for (int i = n - 1; i >= 0; i--) {
      tape.add((int) ((bytes & 0xffffffffL) / (1L << 8 * i) % 256));
    }
    return tape.size();
  }

  int wipe() {
    int had = tape.size();
    tape.clear();
    return had;
  }

  private static final Pattern TOKEN = Pattern.compile(" *(?:([a-z]+)|([0-9]+)|(;))");

  /** One TOKEN: its text and its place; a text of no letters, digits or ; is a byte that begins none. */
  private record Token(String text, int place) {
    boolean is(String word) {
      return text.equals(word);
    }

    int number(int least, int most) {
      if (!text.matches("[0-9]+")) return -1;
      java.math.BigInteger v = new java.math.BigInteger(text);
      if (v.bitLength() > 20) return -1;
      return not(v.intValue(), least, most) ? -1 : v.intValue();
    }
  }

  private List<Token> tokens() {
    StringBuilder all = new StringBuilder();
    for (int b : tape) {
      all.append((char) b);
    }
    List<Token> tokens = new ArrayList<>();
    Matcher m = TOKEN.matcher(all);
    int at = 0;
    while (m.region(at, all.length()).lookingAt()) {
      tokens.add(new Token(m.group().replace(" ", ""), m.end() - m.group().replace(" ", "").length()));
      at = m.end();
    }
    while (at < all.length() && all.charAt(at) == ' ') {
      at++;
    }
    tokens.add(new Token(at < all.length() ? "?" : "", at));
    return tokens;
  }

  int text() {
    World b = w.twin();
    List<Token> tokens = tokens();
    tape.clear();
    int items = 0;
    int i = 0;
    do {
      if (i > 0) i++;
      Token word = tokens.get(i);
      if (KINDS.contains(word.text()) && b.things.size() < 10) {
        Thing t = new Thing(KINDS.indexOf(word.text()));
        b.things.add(t);
        i++;
        String[] parts = {"bulk", "worth", "of"};
        int[] least = {1, 0, 0};
        int[] most = {9, 99, 1};
        for (int p = 0; p < 3; p++) {
          if (tokens.get(i).is(parts[p])) {
            int v = tokens.get(i + 1).number(least[p], most[p]);
            if (v < 0) return -1 - tokens.get(i + 1).place();
            if (p == 0) t.bulk = v;
            if (p == 1) t.worth = v;
            if (p == 2) t.owner = v;
            i += 2;
          }
        }
      } else if (word.is("room") || word.is("hunger")) {
        int v = word.is("room") ? tokens.get(i + 1).number(1, 40) : tokens.get(i + 1).number(0, 9);
        if (v < 0) return -1 - tokens.get(i + 1).place();
        if (word.is("room")) b.room = v;
        else b.hunger = v;
        i += 2;
      } else {
        return -1 - word.place();
      }
      items++;
    } while (tokens.get(i).is(";"));
    if (!tokens.get(i).is("")) return -1 - tokens.get(i).place();
    w = b;
    return items;
  }

  int hold(int spot, int thing) {
    if (not(spot, 0, 9) || thing != -1 && no(thing)) return find(BEYOND);
    w.spots[spot] = thing == -1 ? null : thing;
    return 1;
  }

  int as(int spot, int kind) {
    if (not(spot, 0, 9) || not(kind, 0, 6)) return find(BEYOND);
    if (w.spots[spot] == null) return find(MISSING);
    for (int k = w.things.get(w.spots[spot]).kind; k >= 0; k = PARENT[k]) {
      if (k == kind) return w.spots[spot];
    }
    return find(KIND);
  }

  int sheet(int s, int b, int n) {
    if (not(s, 0, 3) || !List.of(0, 8, 16, 32).contains(b)) return find(BEYOND);
    if (n < 0) return find(SIZE);
    if (n > 40) return find(BEYOND);
    bits[s] = b;
    sheets[s] = b == 0 ? null : new int[n];
    return b == 0 ? 0 : n;
  }

  int write(int s, int i, int v) {
    if (not(s, 0, 3)) return find(BEYOND);
    if (sheets[s] == null) return find(MISSING);
    if (not(i, 0, sheets[s].length - 1)) return find(BEYOND);
    sheets[s][i] = v << 32 - bits[s] >> 32 - bits[s];
    return 1;
  }

  int copy(int s, int from, int t, int to, int n) {
    if (not(s, 0, 3) || not(t, 0, 3)) return find(BEYOND);
    if (sheets[s] == null || sheets[t] == null) return find(MISSING);
    if (bits[s] != bits[t]) return find(KIND);
    if (from < 0 || to < 0 || n < 0 || (long) from + n > sheets[s].length || (long) to + n > sheets[t].length) {
      return find(BEYOND);
    }
    int[] were = sheets[s].clone();
    for (int i = 0; i < n; i++) {
      sheets[t][to + i] = were[from + i];
    }
    return n;
  }

  int load(int s) {
    if (not(s, 0, 3)) return find(BEYOND);
    if (sheets[s] == null) return find(MISSING);
    int i = 0;
    for (; i < sheets[s].length && !not(sheets[s][i], 0, 99) && !no(i); i++) {
      w.things.get(i).worth = sheets[s][i];
    }
    return i;
  }

  int judge(int s) {
    if (not(s, 0, 3)) return find(BEYOND);
    if (sheets[s] == null) return find(MISSING);
    if (late(sheets[s].length)) return find(STATE);
    World a = w.twin();
    for (int i = 0; i < sheets[s].length; i++) {
      Egg e = a.day();
      if (sheets[s][i] != (e == null ? -1 : e.worth())) return i + 1;
    }
    return 0;
  }

  int image() {
    image = w.twin();
    return 1;
  }

  int undo() {
    if (image == null) return find(NONE);
    w = image.twin();
    return w.day;
  }

  int tear() {
    int was = image == null ? 0 : 1;
    image = null;
    return was;
  }

  int count(int what) {
    if (not(what, 0, 7)) return find(BEYOND);
    int spots = 0;
    for (Integer s : w.spots) {
      spots += s == null ? 0 : 1;
    }
    int worth = w.things.stream().mapToInt(t -> t.worth).sum();
    return new int[] {w.day, w.things.size(), w.crop.size(), w.eggs.size(), worth, tape.size(), w.z, spots}[what];
  }

  int status(int which) {
    if (not(which, -1, 6)) return find(BEYOND);
    int sum = 0;
    for (int f = 0; f < 7; f++) {
      if (which == -1 || which == f) sum += found[f];
    }
    return sum;
  }
}
