/** A hen that swallows anything and lays it some days later; the document's promises, call by call. */
public final class FedHen {
  private static final int LOW = -1000001;
  private static final int BEYOND = 0;
  private static final int FULL = 1;
  private static final int KIND = 2;
  private static final int NONE = 3;
  private static final int STATE = 4;
  private static final int MISSING = 5;
  private static final int SIZE = 6;

  private static final int OUT = 0;
  private static final int IN = 1;
  private static final int LAID = 2;

  private static final int MOST_THINGS = 10;
  private static final int MOST_IN = 8;
  private static final int MOST_EGGS = 12;
  private static final int MOST_DAYS = 60;
  private static final int LAST_DAY = 9999;
  private static final int LAST_KIND = 6;
  private static final int MOST_BULK = 9;
  private static final int MOST_WORTH = 99;
  private static final int MOST_STAIN = 99;
  private static final int MOST_EGG_WORTH = 104;
  private static final int MOST_ROOM = 40;
  private static final int MOST_HUNGER = 9;
  private static final int MOST_IN_ORDERS = 5;
  private static final int MOST_ORDERS = 120;
  private static final int MOST_TURNS = 4;
  private static final int MOST_DRAWN_DAYS = 12;
  private static final int SPOTS = 10;
  private static final int SHEETS = 4;
  private static final int MOST_NUMBERS = 40;
  private static final int MOST_BYTES = 120;

  private final Farm farm = new Farm();
  private final Farm kept = new Farm();
  private boolean isKept = false;
  private final Tape tape = new Tape();
  private final Sheet[] sheets = new Sheet[SHEETS];
  private final int[] findings = new int[SIZE + 1];

  // Looks ahead are made on these, so that no call makes objects of its own.
  private final Hen trial = new Hen();
  private final Hen[] levels = new Hen[MOST_TURNS + 1];
  private final int[] row = new int[MOST_THINGS];
  private final int[] bestRow = new int[MOST_IN_ORDERS];
  private final int[] alone = new int[MOST_THINGS];
  private int firstMove = -1;

  public FedHen() {
    for (int s = 0; s < SHEETS; s++) {
      sheets[s] = new Sheet();
    }
    for (int level = 0; level <= MOST_TURNS; level++) {
      levels[level] = new Hen();
    }
  }

  // ---- things, the hen

  public int thing(int kind) {
    if (!within(kind, 0, LAST_KIND)) {
      return finding(BEYOND);
    }
    if (farm.hen.things >= MOST_THINGS) {
      return finding(FULL);
    }
    return farm.hen.addThing(kind);
  }

  public int of(int thing, int what) {
    if (!isThing(thing) || !within(what, 0, 9)) {
      return finding(BEYOND);
    }
    return farm.hen.told(thing, what);
  }

  public int change(int thing, int what, int v) {
    if (!isThing(thing) || !isFit(what, v)) {
      return finding(BEYOND);
    }
    int was = farm.hen.told(thing, what);
    farm.hen.alter(thing, what, v);
    return was;
  }

  public int rule(int what, int v) {
    Hen hen = farm.hen;
    if (what == 0 && within(v, 1, MOST_ROOM)) {
      int was = hen.room;
      hen.room = v;
      return was;
    }
    if (what == 1 && within(v, 0, MOST_HUNGER)) {
      int was = hen.hunger;
      hen.hunger = v;
      return was;
    }
    return finding(BEYOND);
  }

  public int fed(int thing) {
    if (!isThing(thing)) {
      return finding(BEYOND);
    }
    if (!farm.hen.isOut(thing)) {
      return finding(STATE);
    }
    if (!farm.hen.hasRoom(thing)) {
      return finding(FULL);
    }
    farm.hen.swallow(thing);
    return farm.hen.in;
  }

  public int home(int thing) {
    if (!isThing(thing)) {
      return finding(BEYOND);
    }
    if (farm.hen.place[thing] != LAID) {
      return finding(STATE);
    }
    farm.hen.place[thing] = OUT;
    return farm.latestWorth(thing);
  }

  public int crop(int i) {
    if (!within(i, 0, MOST_IN - 1)) {
      return finding(BEYOND);
    }
    return i < farm.hen.in ? farm.hen.crop[i] : finding(NONE);
  }

  public int egg(int i, int what) {
    if (i < 0 || !within(what, 0, 2)) {
      return finding(BEYOND);
    }
    if (i >= farm.eggsKept()) {
      return finding(NONE);
    }
    switch (what) {
      case 0: return farm.eggThing[i];
      case 1: return farm.eggWorth[i];
      default: return farm.eggDay[i];
    }
  }

  // ---- days

  public int days(int n) {
    if (!isDays(n)) {
      return finding(BEYOND);
    }
    if (isTooLate(n)) {
      return finding(STATE);
    }
    int sum = 0;
    for (int d = 0; d < n; d++) {
      sum += farm.liveDay();
    }
    return sum;
  }

  public int now(int what) {
    Hen hen = farm.hen;
    switch (what) {
      case 0: return farm.day;
      case 1: return hen.in;
      case 2: return hen.bulkIn();
      case 3: return farm.eggsEver;
      case 4: return farm.hollowEver;
      case 5: return hen.room;
      case 6: return hen.hunger;
      default: return finding(BEYOND);
    }
  }

  public int ahead(int n, int what) {
    if (!within(n, 0, MOST_DAYS) || !within(what, 0, 4)) {
      return finding(BEYOND);
    }
    if (isTooLate(n)) {
      return finding(STATE);
    }
    trial.become(farm.hen);
    int sum = trial.pass(n);
    switch (what) {
      case 0: return farm.hen.in - trial.in;
      case 1: return sum;
      case 2: return trial.in;
      case 3: return trial.stainIn();
      default: return trial.in > 0 ? trial.crop[0] : -1;
    }
  }

  public int when(int thing) {
    int bad = unlookable(thing);
    if (bad >= 0) {
      return finding(bad);
    }
    int behind = daysUntilLaid(thing);
    return behind > 0 ? behind : finding(NONE);
  }

  public int worth(int thing) {
    int bad = unlookable(thing);
    if (bad >= 0) {
      return finding(bad);
    }
    return daysUntilLaid(thing) > 0 ? trial.laidWorth : finding(NONE);
  }

  public int spoils() {
    if (isTooLate(MOST_DAYS)) {
      return finding(STATE);
    }
    trial.become(farm.hen);
    for (int d = 1; d <= MOST_DAYS; d++) {
      trial.passDay();
      if (trial.laidThing >= 0 && trial.laidWorth < trial.worth[trial.laidThing]) {
        return d;
      }
    }
    return finding(NONE);
  }

  // ---- feeding (nothing changes)

  public int plan(int set, int n) {
    if (!isDays(n) || !isSet(set)) {
      return finding(BEYOND);
    }
    if (!areOut(set) || isTooLate(n)) {
      return finding(STATE);
    }
    return bring(fillRow(set), n);
  }

  public int best(int set, int n) {
    int bad = unorderable(set, n);
    return bad >= 0 ? finding(bad) : findBestRow(set, n);
  }

  public int ith(int set, int n, int i) {
    if (!within(i, 0, MOST_IN_ORDERS - 1) || i >= Integer.bitCount(set)) {
      return finding(BEYOND);
    }
    int bad = unorderable(set, n);
    if (bad >= 0) {
      return finding(bad);
    }
    findBestRow(set, n);
    return bestRow[i];
  }

  public int next(int n) {
    if (!isDays(n)) {
      return finding(BEYOND);
    }
    if (isTooLate(n)) {
      return finding(STATE);
    }
    int most = bring(0, n);
    int which = -1;
    for (int t = 0; t < farm.hen.things; t++) {
      if (farm.hen.isOut(t)) {
        row[0] = t;
        int sum = bring(1, n);
        if (sum > most) {
          most = sum;
          which = t;
        }
      }
    }
    return which;
  }

  public int foes(int n) {
    if (!isDays(n)) {
      return finding(BEYOND);
    }
    if (isTooLate(n)) {
      return finding(STATE);
    }
    int pair = worstPair(n);
    return pair >= 0 ? pair : finding(NONE);
  }

  public int kindFor(int thing, int n) {
    if (!isThing(thing) || !isDays(n)) {
      return finding(BEYOND);
    }
    if (!farm.hen.isOut(thing) || isTooLate(n)) {
      return finding(STATE);
    }
    if (!farm.hen.hasRoom(thing)) {
      return finding(FULL);
    }
    int which = 0;
    int most = -1;
    for (int kind = 0; kind <= LAST_KIND; kind++) {
      int worth = worthAs(thing, kind, n);
      if (worth > most) {
        most = worth;
        which = kind;
      }
    }
    return which;
  }

  public int rid(int n) {
    if (!isDays(n)) {
      return finding(BEYOND);
    }
    if (isTooLate(n)) {
      return finding(STATE);
    }
    int inside = farm.hen.setInside();
    int which = 0;
    int most = -1;
    for (int set = 0; set <= inside; set++) {
      if ((set & ~inside) == 0) {
        int sum = bringWithout(set, n);
        if (sum > most) {
          most = sum;
          which = set;
        }
      }
    }
    return which;
  }

  // ---- two owners

  public int turns(int k, int n) {
    int bad = unplayable(k, n);
    return bad >= 0 ? finding(bad) : playAll(k, n);
  }

  public int first(int k, int n) {
    int bad = unplayable(k, n);
    if (bad >= 0) {
      return finding(bad);
    }
    playAll(k, n);
    return firstMove;
  }

  public int share(int owner, int n) {
    if (!within(owner, 0, 1) || !within(n, 0, MOST_DAYS)) {
      return finding(BEYOND);
    }
    if (isTooLate(n)) {
      return finding(STATE);
    }
    trial.become(farm.hen);
    int sum = 0;
    for (int d = 0; d < n && trial.in > 0; d++) {
      int worth = trial.passDay();
      if (trial.isLaidOf(owner)) {
        sum += worth;
      }
    }
    return sum;
  }

  // ---- what was fed, who waits

  public int fits(int v, int n) {
    int bad = unfit(v, n);
    if (bad >= 0) {
      return finding(bad);
    }
    int sum = 0;
    for (int t = 0; t < farm.hen.things; t++) {
      sum += rowsFrom(t, v, n);
    }
    return sum;
  }

  public int may(int v, int n) {
    int bad = unfit(v, n);
    if (bad >= 0) {
      return finding(bad);
    }
    int set = 0;
    for (int t = 0; t < farm.hen.things; t++) {
      if (rowsFrom(t, v, n) > 0) {
        set |= 1 << t;
      }
    }
    return set;
  }

  public int laid(int owner) {
    if (!within(owner, 0, 1)) {
      return finding(BEYOND);
    }
    int set = 0;
    for (int t = 0; t < farm.hen.things; t++) {
      if (farm.hen.place[t] == LAID && farm.hen.owner[t] == owner) {
        set |= 1 << t;
      }
    }
    return set;
  }

  public int room(int set) {
    if (!isSet(set)) {
      return finding(BEYOND);
    }
    if (!areOut(set) || isTooLate(MOST_THINGS)) {
      return finding(STATE);
    }
    int size = fillRow(set);
    for (int room = 1; room <= MOST_ROOM; room++) {
      if (areAllFed(size, room)) {
        return room;
      }
    }
    return finding(NONE);
  }

  public int starves(int n) {
    if (!isDays(n)) {
      return finding(BEYOND);
    }
    if (isTooLate(n)) {
      return finding(STATE);
    }
    trial.become(farm.hen);
    int least = MOST_HUNGER;
    for (int d = 0; d < n && trial.in > 0; d++) {
      int bulk = trial.bulkIn();
      trial.passDay();
      if (trial.laidThing >= 0) {
        least = Math.min(least, bulk);
      }
    }
    return least;
  }

  // ---- draws

  public int lent(int n) {
    if (!within(n, 1, MOST_DRAWN_DAYS)) {
      return finding(BEYOND);
    }
    int things = farm.hen.things;
    if (isTooLate(n) || things <= 0) {
      return finding(STATE);
    }
    int sum = 0;
    for (int d = 0; d < n; d++) {
      int t = farm.draw() % things;
      if (farm.hen.isOut(t) && farm.hen.hasRoom(t)) {
        farm.hen.swallow(t);
      }
      sum += farm.liveDay();
    }
    return sum;
  }

  public int seed(int v) {
    int was = farm.z;
    farm.z = v;
    return was;
  }

  // ---- texts

  public int feed(int bytes, int n) {
    if (!within(n, 1, 4)) {
      return finding(BEYOND);
    }
    if (tape.size + n > MOST_BYTES) {
      return finding(FULL);
    }
    for (int i = n - 1; i >= 0; i--) {
      tape.append((bytes >>> (8 * i)) & 255);
    }
    return tape.size;
  }

  public int wipe() {
    int had = tape.size;
    tape.size = 0;
    return had;
  }

  public int text() {
    // The text is told to the trial hen, so that a FAULT leaves the true one as it was.
    trial.become(farm.hen);
    int items = tape.tellTo(trial);
    if (items >= 0) {
      farm.hen.become(trial);
    }
    tape.size = 0;
    return items;
  }

  // ---- spots, sheets

  public int hold(int spot, int thing) {
    if (!within(spot, 0, SPOTS - 1) || (thing != -1 && !isThing(thing))) {
      return finding(BEYOND);
    }
    farm.spots[spot] = thing;
    return 1;
  }

  public int as(int spot, int kind) {
    if (!within(spot, 0, SPOTS - 1) || !within(kind, 0, LAST_KIND)) {
      return finding(BEYOND);
    }
    int thing = farm.spots[spot];
    if (!isThing(thing)) {
      return finding(MISSING);
    }
    return Kinds.isUnder(farm.hen.kind[thing], kind) ? thing : finding(KIND);
  }

  public int sheet(int s, int bits, int n) {
    if (!isSheet(s) || (bits != 0 && bits != 8 && bits != 16 && bits != 32)) {
      return finding(BEYOND);
    }
    if (n < 0) {
      return finding(SIZE);
    }
    if (n > MOST_NUMBERS) {
      return finding(BEYOND);
    }
    sheets[s].begin(bits, n);
    return sheets[s].size;
  }

  public int write(int s, int i, int v) {
    if (!isSheet(s)) {
      return finding(BEYOND);
    }
    if (sheets[s].isMissing()) {
      return finding(MISSING);
    }
    if (!within(i, 0, sheets[s].size - 1)) {
      return finding(BEYOND);
    }
    sheets[s].put(i, v);
    return 1;
  }

  public int copy(int s, int from, int t, int to, int n) {
    if (!isSheet(s) || !isSheet(t)) {
      return finding(BEYOND);
    }
    Sheet source = sheets[s];
    Sheet target = sheets[t];
    if (source.isMissing() || target.isMissing()) {
      return finding(MISSING);
    }
    if (source.bits != target.bits) {
      return finding(KIND);
    }
    if (!source.hasPart(from, n) || !target.hasPart(to, n)) {
      return finding(BEYOND);
    }
    System.arraycopy(source.numbers, from, target.numbers, to, n);
    return n;
  }

  public int load(int s) {
    if (!isSheet(s)) {
      return finding(BEYOND);
    }
    if (sheets[s].isMissing()) {
      return finding(MISSING);
    }
    int most = Math.min(sheets[s].size, farm.hen.things);
    int came = 0;
    while (came < most && within(sheets[s].numbers[came], 0, MOST_WORTH)) {
      farm.hen.worth[came] = sheets[s].numbers[came];
      came++;
    }
    return came;
  }

  public int judge(int s) {
    if (!isSheet(s)) {
      return finding(BEYOND);
    }
    Sheet sheet = sheets[s];
    if (sheet.isMissing()) {
      return finding(MISSING);
    }
    if (isTooLate(sheet.size)) {
      return finding(STATE);
    }
    trial.become(farm.hen);
    for (int i = 0; i < sheet.size; i++) {
      int worth = trial.passDay();
      if (sheet.numbers[i] != (trial.laidThing >= 0 ? worth : -1)) {
        return 1 + i;
      }
    }
    return 0;
  }

  // ---- images

  public int image() {
    kept.become(farm);
    isKept = true;
    return 1;
  }

  public int undo() {
    if (!isKept) {
      return finding(NONE);
    }
    farm.become(kept);
    return farm.day;
  }

  public int tear() {
    int was = isKept ? 1 : 0;
    isKept = false;
    return was;
  }

  public int count(int what) {
    switch (what) {
      case 0: return farm.day;
      case 1: return farm.hen.things;
      case 2: return farm.hen.in;
      case 3: return farm.eggsEver;
      case 4: return farm.hen.worthOfAll();
      case 5: return tape.size;
      case 6: return farm.z;
      case 7: return farm.spotsHolding();
      default: return finding(BEYOND);
    }
  }

  public int status(int which) {
    if (!within(which, -1, SIZE)) {
      return finding(BEYOND);
    }
    if (which >= 0) {
      return findings[which];
    }
    int sum = 0;
    for (int f = BEYOND; f <= SIZE; f++) {
      sum += findings[f];
    }
    return sum;
  }

  // ---- what calls have in common

  private int finding(int which) {
    findings[which]++;
    return LOW - which;
  }

  private static boolean within(int v, int least, int most) {
    return v >= least && v <= most;
  }

  private static boolean isDays(int n) {
    return within(n, 1, MOST_DAYS);
  }

  private boolean isTooLate(int n) {
    return farm.day + n > LAST_DAY;
  }

  private boolean isThing(int thing) {
    return within(thing, 0, farm.hen.things - 1);
  }

  private static boolean isSheet(int s) {
    return within(s, 0, SHEETS - 1);
  }

  private static boolean isFit(int what, int v) {
    switch (what) {
      case 0: return within(v, 0, LAST_KIND);
      case 1: return within(v, 1, MOST_BULK);
      case 2: return within(v, 0, MOST_WORTH);
      case 3: return within(v, 0, 1);
      default: return false;
    }
  }

  private boolean isSet(int set) {
    return set >>> farm.hen.things == 0;
  }

  private boolean areOut(int set) {
    for (int t = 0; t < farm.hen.things; t++) {
      if ((set >> t & 1) != 0 && !farm.hen.isOut(t)) {
        return false;
      }
    }
    return true;
  }

  // Checks that several calls share answer the finding, or -1.

  private int unlookable(int thing) {
    if (!isThing(thing)) {
      return BEYOND;
    }
    return farm.hen.place[thing] != IN || isTooLate(MOST_DAYS) ? STATE : -1;
  }

  private int unorderable(int set, int n) {
    if (!isDays(n) || !isSet(set) || Integer.bitCount(set) > MOST_IN_ORDERS) {
      return BEYOND;
    }
    return !areOut(set) || isTooLate(n) ? STATE : -1;
  }

  private int unplayable(int k, int n) {
    if (!within(k, 1, MOST_TURNS) || !within(n, k, MOST_DAYS)) {
      return BEYOND;
    }
    return isTooLate(n) ? STATE : -1;
  }

  private int unfit(int v, int n) {
    if (!within(v, 0, MOST_EGG_WORTH) || !isDays(n)) {
      return BEYOND;
    }
    return isTooLate(n) ? STATE : -1;
  }

  // ---- looks ahead

  /** 0 if it isn't LAID in the most DAYS; else the trial hen stands behind the DAY of its EGG. */
  private int daysUntilLaid(int thing) {
    trial.become(farm.hen);
    for (int d = 1; d <= MOST_DAYS; d++) {
      trial.passDay();
      if (trial.laidThing == thing) {
        return d;
      }
    }
    return 0;
  }

  /** Puts the THINGS of a set into the row, by numbers; how many they are. */
  private int fillRow(int set) {
    int size = 0;
    for (int t = 0; t < farm.hen.things; t++) {
      if ((set >> t & 1) != 0) {
        row[size] = t;
        size++;
      }
    }
    return size;
  }

  /** Day d (from 0) of a FEEDING of the row's first THINGS. */
  private int passFeedingDay(int size, int d) {
    if (d < size && trial.hasRoom(row[d])) {
      trial.swallow(row[d]);
    }
    return trial.passDay();
  }

  private int bring(int size, int n) {
    trial.become(farm.hen);
    int sum = 0;
    for (int d = 0; d < n && (d < size || trial.in > 0); d++) {
      sum += passFeedingDay(size, d);
    }
    return sum;
  }

  /** The most that an order of a set brings; the first such order stands in bestRow then. */
  private int findBestRow(int set, int n) {
    int size = Math.min(fillRow(set), MOST_IN_ORDERS);
    int most = -1;
    boolean more = true;
    for (int order = 0; more && order < MOST_ORDERS; order++) {
      int sum = bring(size, n);
      if (sum > most) {
        most = sum;
        System.arraycopy(row, 0, bestRow, 0, size);
      }
      more = turnRow(size);
    }
    return most;
  }

  /** Makes the row's next order by numbers; false if it was the last one. */
  private boolean turnRow(int size) {
    int i = size - 2;
    while (i >= 0 && row[i] > row[i + 1]) {
      i--;
    }
    if (i < 0) {
      return false;
    }
    int j = size - 1;
    while (j > i && row[j] < row[i]) {
      j--;
    }
    swapInRow(i, j);
    for (int a = i + 1, b = size - 1; a < b; a++, b--) {
      swapInRow(a, b);
    }
    return true;
  }

  private void swapInRow(int a, int b) {
    int v = row[a];
    row[a] = row[b];
    row[b] = v;
  }

  /** 10 times the lesser and the other one of those that spoil each other most; -1: no two are OUT. */
  private int worstPair(int n) {
    Hen hen = farm.hen;
    for (int t = 0; t < hen.things; t++) {
      row[0] = t;
      alone[t] = hen.isOut(t) ? bring(1, n) : 0;
    }
    int pair = -1;
    int most = 0;
    for (int a = 0; a < hen.things; a++) {
      for (int b = a + 1; b < hen.things; b++) {
        if (hen.isOut(a) && hen.isOut(b)) {
          row[0] = a;
          row[1] = b;
          int lost = alone[a] + alone[b] - bring(2, n);
          if (pair < 0 || lost > most) {
            most = lost;
            pair = 10 * a + b;
          }
        }
      }
    }
    return pair;
  }

  private int worthAs(int thing, int kind, int n) {
    trial.become(farm.hen);
    trial.kind[thing] = kind;
    trial.swallow(thing);
    for (int d = 0; d < n; d++) {
      trial.passDay();
      if (trial.laidThing == thing) {
        return trial.laidWorth;
      }
    }
    return 0;
  }

  private int bringWithout(int set, int n) {
    trial.become(farm.hen);
    trial.takeOut(set);
    return trial.pass(n);
  }

  /** In how many rows from a THING on the first EGG of both is worth v. */
  private int rowsFrom(int thing, int v, int n) {
    Hen hen = farm.hen;
    int sum = 0;
    for (int t = 0; t < hen.things; t++) {
      if (t != thing && hen.isOut(thing) && hen.isOut(t) && firstWorth(thing, t, n) == v) {
        sum++;
      }
    }
    return sum;
  }

  private int firstWorth(int one, int other, int n) {
    row[0] = one;
    row[1] = other;
    trial.become(farm.hen);
    for (int d = 0; d < n; d++) {
      int worth = passFeedingDay(2, d);
      if (trial.laidThing == one || trial.laidThing == other) {
        return worth;
      }
    }
    return -1;
  }

  private boolean areAllFed(int size, int room) {
    trial.become(farm.hen);
    trial.room = room;
    for (int d = 0; d < size; d++) {
      if (!trial.hasRoom(row[d])) {
        return false;
      }
      passFeedingDay(size, d);
    }
    return true;
  }

  // ---- feeding by turns

  private int playAll(int k, int n) {
    levels[0].become(farm.hen);
    return play(0, k, n);
  }

  /** What comes of the turns from a level on, its hen standing ahead of that turn. */
  private int play(int level, int k, int n) {
    Hen hen = levels[level];
    if (level >= k || level >= MOST_TURNS) {
      return restOf(hen, n - k);
    }
    int owner = level & 1;
    int most = move(level, -1, k, n);
    int which = -1;
    for (int t = 0; t < hen.things; t++) {
      if (hen.owner[t] == owner && hen.isOut(t) && hen.hasRoom(t)) {
        int sum = move(level, t, k, n);
        if (owner == 0 ? sum > most : sum < most) {
          most = sum;
          which = t;
        }
      }
    }
    if (level == 0) {
      firstMove = which;
    }
    return most;
  }

  /** What comes of feeding a THING, or nothing (-1), at a level below the last one. */
  private int move(int level, int thing, int k, int n) {
    Hen hen = levels[level + 1];
    hen.become(levels[level]);
    if (thing >= 0) {
      hen.swallow(thing);
    }
    hen.passDay();
    int sum = hen.laidLead();
    return sum + play(level + 1, k, n);
  }

  private static int restOf(Hen hen, int n) {
    int sum = 0;
    for (int d = 0; d < n && hen.in > 0; d++) {
      hen.passDay();
      sum += hen.laidLead();
    }
    return sum;
  }

  /** What the KINDS take, stain and leave, the one above already reckoned in. */
  private static final class Kinds {
    private static final int CORN = 1;
    private static final int GOLD = 3;
    private static final int RING = 4;
    private static final int SAND = 5;
    private static final int DEED = 6;

    // By number: thing, corn, metal, gold, ring, sand, deed.
    private static final int[] ABOVE = {-1, 0, 0, 2, 3, 1, 0};
    private static final int[] TAKES = {3, 1, 4, 4, 5, 5, 3};
    private static final int[] STAINS = {1, 0, 2, 1, 1, 2, 4};

    private static int left(int kind, int worth, int stain) {
      switch (kind) {
        case CORN:
        case SAND: return worth / 2;
        case GOLD: return Math.max(0, worth - stain / 2);
        case RING: return Math.max(0, worth - stain / 2) + 5;
        case DEED: return stain == 0 ? worth : 0;
        default: return Math.max(0, worth - stain);
      }
    }

    private static boolean isUnder(int kind, int above) {
      int k = kind;
      for (int step = 0; step <= LAST_KIND && k > 0 && k != above; step++) {
        k = ABOVE[k];
      }
      return k == above;
    }
  }

  /** The THINGS, the CROP and the rules: all that a DAY works on. */
  private static final class Hen {
    private int things = 0;
    private final int[] kind = new int[MOST_THINGS];
    private final int[] bulk = new int[MOST_THINGS];
    private final int[] worth = new int[MOST_THINGS];
    private final int[] owner = new int[MOST_THINGS];
    private final int[] place = new int[MOST_THINGS];
    private final int[] age = new int[MOST_THINGS];
    private final int[] stain = new int[MOST_THINGS];
    private final int[] crop = new int[MOST_IN];
    private int in = 0;
    private int room = 12;
    private int hunger = 2;
    // The EGG of the latest DAY; no THING (-1), worth 0, if there was none.
    private int laidThing = -1;
    private int laidWorth = 0;
    private boolean laidHollow = false;

    private void become(Hen other) {
      things = other.things;
      System.arraycopy(other.kind, 0, kind, 0, MOST_THINGS);
      System.arraycopy(other.bulk, 0, bulk, 0, MOST_THINGS);
      System.arraycopy(other.worth, 0, worth, 0, MOST_THINGS);
      System.arraycopy(other.owner, 0, owner, 0, MOST_THINGS);
      System.arraycopy(other.place, 0, place, 0, MOST_THINGS);
      System.arraycopy(other.age, 0, age, 0, MOST_THINGS);
      System.arraycopy(other.stain, 0, stain, 0, MOST_THINGS);
      System.arraycopy(other.crop, 0, crop, 0, MOST_IN);
      in = other.in;
      room = other.room;
      hunger = other.hunger;
    }

    /** The new THING's number; -1 if there are as many as can be. */
    private int addThing(int newKind) {
      if (things >= MOST_THINGS) {
        return -1;
      }
      int t = things;
      kind[t] = newKind;
      bulk[t] = 2;
      worth[t] = 10;
      owner[t] = 0;
      putAside(t, OUT);
      things++;
      return t;
    }

    // A THING that isn't IN tells 0 for both.
    private void putAside(int t, int where) {
      place[t] = where;
      age[t] = 0;
      stain[t] = 0;
    }

    private int told(int t, int what) {
      switch (what) {
        case 0: return kind[t];
        case 1: return bulk[t];
        case 2: return worth[t];
        case 3: return owner[t];
        case 4: return place[t];
        case 5: return age[t];
        case 6: return stain[t];
        case 7: return Kinds.TAKES[kind[t]];
        case 8: return Kinds.STAINS[kind[t]];
        default: return Kinds.left(kind[t], worth[t], stain[t]);
      }
    }

    private void alter(int t, int what, int v) {
      switch (what) {
        case 0: kind[t] = v; break;
        case 1: bulk[t] = v; break;
        case 2: worth[t] = v; break;
        case 3: owner[t] = v; break;
        default: break;
      }
    }

    private boolean isOut(int t) {
      return place[t] == OUT;
    }

    private boolean hasRoom(int t) {
      return in < MOST_IN && bulkIn() + bulk[t] <= room;
    }

    private void swallow(int t) {
      if (in >= MOST_IN) {
        return;
      }
      crop[in] = t;
      in++;
      putAside(t, IN);
    }

    private void takeOut(int set) {
      int stay = 0;
      for (int i = 0; i < in; i++) {
        int t = crop[i];
        if ((set >> t & 1) != 0) {
          putAside(t, OUT);
        } else {
          crop[stay] = t;
          stay++;
        }
      }
      in = stay;
    }

    private int bulkIn() {
      int sum = 0;
      for (int i = 0; i < in; i++) {
        sum += bulk[crop[i]];
      }
      return sum;
    }

    private int stainIn() {
      int sum = 0;
      for (int i = 0; i < in; i++) {
        sum += stain[crop[i]];
      }
      return sum;
    }

    private int setInside() {
      int set = 0;
      for (int i = 0; i < in; i++) {
        set |= 1 << crop[i];
      }
      return set;
    }

    private int worthOfAll() {
      int sum = 0;
      for (int t = 0; t < things; t++) {
        sum += worth[t];
      }
      return sum;
    }

    /** One DAY; what its EGG is worth (0: there is none). */
    private int passDay() {
      grow();
      layFront();
      return laidWorth;
    }

    private int pass(int n) {
      int sum = 0;
      for (int d = 0; d < n && in > 0; d++) {
        sum += passDay();
      }
      return sum;
    }

    private void grow() {
      for (int i = 0; i < in; i++) {
        int t = crop[i];
        age[t]++;
        stain[t] = Math.min(MOST_STAIN, stain[t] + stainsAt(i - 1) + stainsAt(i + 1));
      }
    }

    private int stainsAt(int i) {
      return i >= 0 && i < in ? Kinds.STAINS[kind[crop[i]]] : 0;
    }

    private void layFront() {
      laidThing = -1;
      laidWorth = 0;
      laidHollow = false;
      int t = crop[0];
      if (in <= 0 || age[t] < Kinds.TAKES[kind[t]]) {
        return;
      }
      laidThing = t;
      laidHollow = bulkIn() < hunger;
      laidWorth = laidHollow ? 0 : Kinds.left(kind[t], worth[t], stain[t]);
      in--;
      System.arraycopy(crop, 1, crop, 0, in);
      putAside(t, LAID);
    }

    private boolean isLaidOf(int whose) {
      return laidThing >= 0 && owner[laidThing] == whose;
    }

    /** What the latest DAY gave OWNER 0 ahead of OWNER 1. */
    private int laidLead() {
      return isLaidOf(1) ? -laidWorth : laidWorth;
    }
  }

  /** All that an image keeps. */
  private static final class Farm {
    private final Hen hen = new Hen();
    private int day = 0;
    private int z = 1;
    private int eggsEver = 0;
    private int hollowEver = 0;
    // The latest EGG first.
    private final int[] eggThing = new int[MOST_EGGS];
    private final int[] eggWorth = new int[MOST_EGGS];
    private final int[] eggDay = new int[MOST_EGGS];
    private final int[] spots = new int[SPOTS];

    private Farm() {
      for (int i = 0; i < SPOTS; i++) {
        spots[i] = -1;
      }
    }

    private void become(Farm other) {
      hen.become(other.hen);
      day = other.day;
      z = other.z;
      eggsEver = other.eggsEver;
      hollowEver = other.hollowEver;
      System.arraycopy(other.eggThing, 0, eggThing, 0, MOST_EGGS);
      System.arraycopy(other.eggWorth, 0, eggWorth, 0, MOST_EGGS);
      System.arraycopy(other.eggDay, 0, eggDay, 0, MOST_EGGS);
      System.arraycopy(other.spots, 0, spots, 0, SPOTS);
    }

    private int liveDay() {
      int worth = hen.passDay();
      if (hen.laidThing >= 0) {
        keepEgg();
      }
      day++;
      return worth;
    }

    private void keepEgg() {
      System.arraycopy(eggThing, 0, eggThing, 1, MOST_EGGS - 1);
      System.arraycopy(eggWorth, 0, eggWorth, 1, MOST_EGGS - 1);
      System.arraycopy(eggDay, 0, eggDay, 1, MOST_EGGS - 1);
      eggThing[0] = hen.laidThing;
      eggWorth[0] = hen.laidWorth;
      eggDay[0] = day;
      eggsEver++;
      if (hen.laidHollow) {
        hollowEver++;
      }
    }

    private int eggsKept() {
      return Math.min(eggsEver, MOST_EGGS);
    }

    private int latestWorth(int thing) {
      for (int i = 0; i < eggsKept(); i++) {
        if (eggThing[i] == thing) {
          return eggWorth[i];
        }
      }
      return -1;
    }

    private int draw() {
      z = z * 1103515245 + 12345;
      return z >>> 8;
    }

    private int spotsHolding() {
      int sum = 0;
      for (int i = 0; i < SPOTS; i++) {
        if (spots[i] >= 0) {
          sum++;
        }
      }
      return sum;
    }
  }

  /** THE TAPE, its TOKENS, and the TOKEN at which the reading of the TEXT stands. */
  private static final class Tape {
    private static final int END = 0;
    private static final int WORD = 1;
    private static final int NUMBER = 2;
    private static final int SIGN = 3;
    private static final int OTHER = 4;

    // Words 0 to 6 are the KINDS.
    private static final int BULK = 7;
    private static final int WORTH = 8;
    private static final int OWNER = 9;
    private static final int ROOM = 10;
    private static final int HUNGER = 11;
    private static final int LAST_WORD = 11;
    private static final int LAST_NUMBER = 999;

    private final int[] bytes = new int[MOST_BYTES];
    private int size = 0;
    // No more TOKENS than bytes, and the END.
    private final int[] sorts = new int[MOST_BYTES + 1];
    private final int[] begins = new int[MOST_BYTES + 1];
    // A NUMBER's value, or which WORD it is (-1: another one).
    private final int[] values = new int[MOST_BYTES + 1];
    private int tokens = 0;
    private int at = 0;

    private void append(int b) {
      if (size < MOST_BYTES) {
        bytes[size] = b;
        size++;
      }
    }

    private void readTokens() {
      tokens = 0;
      int i = 0;
      for (int round = 0; round < MOST_BYTES && i < size; round++) {
        i = bytes[i] == ' ' ? i + 1 : readToken(i);
      }
      addToken(END, size, 0);
    }

    private void addToken(int sort, int begin, int value) {
      if (tokens < sorts.length) {
        sorts[tokens] = sort;
        begins[tokens] = begin;
        values[tokens] = value;
        tokens++;
      }
    }

    /** The place behind the TOKEN that begins here. */
    private int readToken(int begin) {
      int end = begin + 1;
      if (isLetter(bytes[begin])) {
        while (end < size && isLetter(bytes[end])) {
          end++;
        }
        addToken(WORD, begin, wordBetween(begin, end));
      } else if (isDigit(bytes[begin])) {
        while (end < size && isDigit(bytes[end])) {
          end++;
        }
        addToken(NUMBER, begin, numberBetween(begin, end));
      } else {
        addToken(bytes[begin] == ';' ? SIGN : OTHER, begin, 0);
      }
      return end;
    }

    private static boolean isLetter(int b) {
      return b >= 'a' && b <= 'z';
    }

    private static boolean isDigit(int b) {
      return b >= '0' && b <= '9';
    }

    private int numberBetween(int begin, int end) {
      int value = 0;
      for (int i = begin; i < end; i++) {
        // Held just above the last NUMBER, so that it can't run over.
        value = Math.min(LAST_NUMBER + 1, value * 10 + bytes[i] - '0');
      }
      return value;
    }

    private int wordBetween(int begin, int end) {
      for (int w = 0; w <= LAST_WORD; w++) {
        if (isWord(wordOf(w), begin, end)) {
          return w;
        }
      }
      return -1;
    }

    private boolean isWord(String word, int begin, int end) {
      if (word.length() != end - begin) {
        return false;
      }
      for (int i = 0; i < word.length(); i++) {
        if (word.charAt(i) != bytes[begin + i]) {
          return false;
        }
      }
      return true;
    }

    private static String wordOf(int w) {
      switch (w) {
        case 0: return "thing";
        case 1: return "corn";
        case 2: return "metal";
        case 3: return "gold";
        case 4: return "ring";
        case 5: return "sand";
        case 6: return "deed";
        case BULK: return "bulk";
        case WORTH: return "worth";
        case OWNER: return "of";
        case ROOM: return "room";
        default: return "hunger";
      }
    }

    /** Tells all to a hen: how many ITEMS; -1 less the FAULT if there is one. */
    private int tellTo(Hen hen) {
      readTokens();
      at = 0;
      for (int items = 1; items <= MOST_BYTES && tellItem(hen); items++) {
        if (sorts[at] == END) {
          return items;
        }
        if (sorts[at] != SIGN) {
          break;
        }
        step();
      }
      return -1 - begins[at];
    }

    // The END is the last TOKEN; there is no step behind it.
    private void step() {
      if (at < tokens - 1) {
        at++;
      }
    }

    /** Stands at the TOKEN behind the ITEM then; false: at the one that can't stand there. */
    private boolean tellItem(Hen hen) {
      int word = sorts[at] == WORD ? values[at] : -1;
      if (word < 0) {
        return false;
      }
      if (word <= LAST_KIND) {
        return tellThing(hen, hen.addThing(word));
      }
      return (word == ROOM || word == HUNGER) && tellRule(hen, word == ROOM);
    }

    private boolean tellRule(Hen hen, boolean isRoom) {
      step();
      if (!(isRoom ? isNumber(1, MOST_ROOM) : isNumber(0, MOST_HUNGER))) {
        return false;
      }
      if (isRoom) {
        hen.room = values[at];
      } else {
        hen.hunger = values[at];
      }
      step();
      return true;
    }

    private boolean tellThing(Hen hen, int thing) {
      if (thing < 0) {
        return false;
      }
      step();
      return tellPart(hen, thing, BULK, 1, MOST_BULK)
          && tellPart(hen, thing, WORTH, 0, MOST_WORTH)
          && tellPart(hen, thing, OWNER, 0, 1);
    }

    private boolean tellPart(Hen hen, int thing, int word, int least, int most) {
      if (sorts[at] != WORD || values[at] != word) {
        return true;
      }
      step();
      if (!isNumber(least, most)) {
        return false;
      }
      hen.alter(thing, 1 + word - BULK, values[at]);
      step();
      return true;
    }

    private boolean isNumber(int least, int most) {
      return sorts[at] == NUMBER && within(values[at], least, most);
    }
  }

  /** A SHEET; one of 0 bits is MISSING. */
  private static final class Sheet {
    private int bits = 0;
    private int size = 0;
    private final int[] numbers = new int[MOST_NUMBERS];

    private boolean isMissing() {
      return bits == 0;
    }

    private void begin(int newBits, int n) {
      bits = newBits;
      size = newBits == 0 ? 0 : n;
      for (int i = 0; i < MOST_NUMBERS; i++) {
        numbers[i] = 0;
      }
    }

    private void put(int i, int v) {
      switch (bits) {
        case 8: numbers[i] = (byte) v; break;
        case 16: numbers[i] = (short) v; break;
        default: numbers[i] = v; break;
      }
    }

    private boolean hasPart(int from, int n) {
      return from >= 0 && n >= 0 && n <= size && from <= size - n;
    }
  }
}
