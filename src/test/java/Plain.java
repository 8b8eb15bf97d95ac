import java.util.ArrayList;
import java.util.Arrays;
import java.util.HashMap;
import java.util.HashSet;
import java.util.List;
import java.util.Map;
import java.util.Set;

/**
 * The document once more, as plainly as can be and with no thought of speed: what RotMoney answers
 * is held against it.
 */
final class Plain {
  private static final int NONE = -1;
  private static final int RANGE = -2;
  private static final int FULL = -3;
  private static final int STATE = -4;

  private static final Map<String, String> CLAUSES = new HashMap<>();
  private static final Map<String, int[]> BOUNDS = new HashMap<>();

  static {
    CLAUSES.put("rot", "day lose");
    CLAUSES.put("sort", "+sort people thousand coins");
    CLAUSES.put("thing", "+thing thousand cost");
    CLAUSES.put("earn", "sort day pay");
    CLAUSES.put("price", "thing day pay");
    CLAUSES.put("make", "thing day make");
    CLAUSES.put("want", "sort thing day units worth");
    CLAUSES.put("ill", "sort ill");
    CLAUSES.put("chest", "sort");
    CLAUSES.put("store", "thing");
    BOUNDS.put("day", new int[] {0, 6});
    BOUNDS.put("lose", new int[] {0, 900});
    BOUNDS.put("people", new int[] {1, 99});
    BOUNDS.put("thousand", new int[] {0, 1000});
    BOUNDS.put("coins", new int[] {0, 60});
    BOUNDS.put("cost", new int[] {0, 9});
    BOUNDS.put("pay", new int[] {1, 20});
    BOUNDS.put("make", new int[] {0, 999});
    BOUNDS.put("units", new int[] {1, 3});
    BOUNDS.put("worth", new int[] {0, 99});
    BOUNDS.put("ill", new int[] {1, 127});
    BOUNDS.put("asked", new int[] {1, 99});
  }

  private record Token(String text, int place) {
    boolean isWord() {
      return text.matches("[a-z]{1,8}");
    }

    boolean isNumber() {
      return text.matches("[0-9]{1,4}");
    }
  }

  private static final class Fault extends RuntimeException {
    private static final long serialVersionUID = 1L;
    final int kind;
    final int place;

    Fault(int kind, int place) {
      this.kind = kind;
      this.place = place;
    }
  }

  private static final class Told {
    final List<String> sorts = new ArrayList<>();
    final List<String> things = new ArrayList<>();
    final List<List<String>> clauses = new ArrayList<>();
    final Set<String> seen = new HashSet<>();

    /** The last number of the clause that begins so; else another number. */
    int find(int untold, String... begin) {
      for (List<String> clause : clauses) {
        if (clause.size() > begin.length
            && clause.subList(0, begin.length).equals(Arrays.asList(begin))) {
          return Integer.parseInt(clause.get(clause.size() - 1));
        }
      }
      return untold;
    }

    List<String> clauseOf(String word, String name) {
      for (List<String> clause : clauses) {
        if (clause.get(0).equals(word) && clause.get(1).equals(name)) {
          return clause;
        }
      }
      return null;
    }

    String only(String word) {
      for (List<String> clause : clauses) {
        if (clause.get(0).equals(word)) {
          return clause.get(1);
        }
      }
      return null;
    }
  }

  private static final class Trip {
    int days;
    int chest;
    int bought;
    long held;
    int[] ways = {1, 1, 1, 1};
    int[][] of = new int[4][7];

    Trip copy() {
      Trip c = new Trip();
      c.days = days;
      c.chest = chest;
      c.bought = bought;
      c.held = held;
      c.ways = ways.clone();
      for (int i = 0; i < 4; i++) {
        c.of[i] = of[i].clone();
      }
      return c;
    }
  }

  private StringBuilder tape = new StringBuilder();
  private Told told = new Told();
  private int faultKind = 0;
  private int faultPlace = NONE;
  private int[][] prices = new int[3][7];
  private int[] losses = new int[7];
  private Trip trip = new Trip();
  private Trip[] slots = new Trip[3];
  private int turns = NONE;
  private int[] worths = new int[4];
  private int[] costs = new int[4];

  // What the rules ask most, taken out of the clauses once.
  private int[][] earnings = new int[4][7];
  private int[][] makes = new int[3][7];
  private int[][][] wanted = new int[4][7][3];
  private int[] people = new int[4];
  private int[] patience = new int[4];
  private int[] firstCoins = new int[4];
  private int[] ill = new int[4];
  private int[] spoils = new int[3];
  private int[] storeCost = new int[3];
  private int chestSort = NONE;
  private int stored = NONE;

  Plain() {
    takeOut();
  }

  // ---- the tape

  public int feed(int a, int b, int c, int d, int e) {
    if (tape.length() > 880) {
      return FULL;
    }
    for (int v : new int[] {a, b, c, d, e}) {
      tape.append((char) (v >>> 24)).append((char) (v >>> 16 & 255));
      tape.append((char) (v >>> 8 & 255)).append((char) (v & 255));
    }
    return tape.length();
  }

  public int end(int n) {
    if (n < 0 || n > tape.length()) {
      return NONE;
    }
    tape.setLength(n);
    return n;
  }

  private List<Token> tokens() {
    String s = tape.toString();
    tape.setLength(0);
    List<Token> list = new ArrayList<>();
    int i = 0;
    while (i < s.length()) {
      char c = s.charAt(i);
      if (c == ' ' || c == '\n') {
        i++;
        continue;
      }
      String kind = c >= 'a' && c <= 'z' ? "[a-z]" : c >= '0' && c <= '9' ? "[0-9]" : null;
      int j = i + 1;
      while (kind != null && j < s.length() && s.substring(j, j + 1).matches(kind)) {
        j++;
      }
      list.add(new Token(s.substring(i, j), i));
      i = j;
    }
    list.add(new Token("", s.length()));
    return list;
  }

  /** The parts of a clause from a token on, as texts; the token behind them is the semicolon. */
  private static List<String> parts(Told t, List<Token> tokens, int at, String word, String shape) {
    List<String> parts = new ArrayList<>();
    parts.add(word);
    for (String role : shape.split(" ")) {
      Token token = tokens.get(at + parts.size() - 1);
      boolean name = role.endsWith("sort") || role.endsWith("thing");
      if (name ? !token.isWord() : !token.isNumber()) {
        throw new Fault(1, token.place);
      }
      if (!name) {
        int n = Integer.parseInt(token.text);
        int[] bounds = BOUNDS.get(role);
        if (n < bounds[0] || n > bounds[1]) {
          throw new Fault(2, token.place);
        }
        parts.add(Integer.toString(n));
        if (role.equals("day") && !word.isEmpty()) {
          String key = word + (word.equals("rot") ? "" : parts.get(1)) + " " + n;
          if (!t.seen.add(key)) {
            throw new Fault(3, token.place);
          }
        }
        continue;
      }
      List<String> known = role.endsWith("sort") ? t.sorts : t.things;
      if (role.startsWith("+")) {
        if (known.contains(token.text)) {
          throw new Fault(3, token.place);
        }
      } else if (!known.contains(token.text)) {
        throw new Fault(5, token.place);
      } else if (word.equals("ill") && !t.seen.add("ill " + token.text)) {
        throw new Fault(3, token.place);
      }
      parts.add(token.text);
    }
    Token last = tokens.get(at + parts.size() - 1);
    if (!last.text.equals(";")) {
      throw new Fault(1, last.place);
    }
    return parts;
  }

  private static Told read(List<Token> tokens) {
    Told t = new Told();
    int at = 0;
    while (!tokens.get(at).text.isEmpty()) {
      Token first = tokens.get(at);
      String word = first.text;
      if (!CLAUSES.containsKey(word)) {
        throw new Fault(1, first.place);
      }
      if ((word.equals("chest") || word.equals("store")) && !t.seen.add(word)) {
        throw new Fault(3, first.place);
      }
      if (word.equals("sort") && t.sorts.size() == 4) {
        throw new Fault(4, first.place);
      }
      if (word.equals("thing") && t.things.size() == 3) {
        throw new Fault(4, first.place);
      }
      List<String> clause = parts(t, tokens, at + 1, word, CLAUSES.get(word));
      t.clauses.add(clause);
      if (word.equals("sort")) {
        t.sorts.add(clause.get(1));
      }
      if (word.equals("thing")) {
        t.things.add(clause.get(1));
      }
      at += clause.size() + 1;
    }
    return t;
  }

  public int town() {
    faultKind = 0;
    faultPlace = NONE;
    try {
      told = read(tokens());
    } catch (Fault f) {
      faultKind = f.kind;
      faultPlace = f.place;
      return NONE;
    }
    takeOut();
    return told.clauses.size();
  }

  private void takeOut() {
    for (int d = 0; d < 7; d++) {
      String day = Integer.toString(d);
      losses[d] = told.find(0, "rot", day);
      for (int s = 0; s < told.sorts.size(); s++) {
        String name = told.sorts.get(s);
        earnings[s][d] = told.find(0, "earn", name, day);
        wanted[s][d] = new int[] {NONE, 0, 0};
        for (List<String> c : told.clauses) {
          if (c.get(0).equals("want") && c.get(1).equals(name) && c.get(3).equals(day)) {
            wanted[s][d] = new int[] {told.things.indexOf(c.get(2)),
                Integer.parseInt(c.get(4)), Integer.parseInt(c.get(5))};
          }
        }
      }
      for (int t = 0; t < told.things.size(); t++) {
        makes[t][d] = told.find(NONE, "make", told.things.get(t), day);
      }
    }
    for (int s = 0; s < told.sorts.size(); s++) {
      List<String> c = told.clauseOf("sort", told.sorts.get(s));
      people[s] = Integer.parseInt(c.get(2));
      patience[s] = Integer.parseInt(c.get(3));
      firstCoins[s] = Integer.parseInt(c.get(4));
      ill[s] = told.find(0, "ill", told.sorts.get(s));
    }
    for (int t = 0; t < told.things.size(); t++) {
      List<String> c = told.clauseOf("thing", told.things.get(t));
      spoils[t] = Integer.parseInt(c.get(2));
      storeCost[t] = Integer.parseInt(c.get(3));
    }
    chestSort = told.only("chest") == null ? NONE : told.sorts.indexOf(told.only("chest"));
    stored = told.things.isEmpty() ? NONE
        : told.only("store") == null ? 0 : told.things.indexOf(told.only("store"));
    tellPrices();
    trip = begun(new int[] {1, 1, 1, 1});
    slots = new Trip[3];
    turns = NONE;
    worths = new int[4];
    costs = new int[4];
  }

  private void tellPrices() {
    for (int t = 0; t < told.things.size(); t++) {
      for (int d = 0; d < 7; d++) {
        prices[t][d] = told.find(5, "price", told.things.get(t), Integer.toString(d));
      }
    }
  }

  public int fault(int what) {
    return what == 0 ? faultKind : what == 1 ? faultPlace : NONE;
  }

  private boolean sortIs(int s) {
    return s >= 0 && s < told.sorts.size();
  }

  private boolean thingIs(int t) {
    return t >= 0 && t < told.things.size();
  }

  private static boolean in(int n, int least, int most) {
    return least <= n && n <= most;
  }

  public int told(int what) {
    if (what == 0) {
      return told.sorts.size();
    }
    if (what == 1) {
      return told.things.size();
    }
    if (what == 2) {
      return chestSort;
    }
    if (what == 3) {
      return stored;
    }
    if (in(what, 10, 16)) {
      return told.find(0, "rot", Integer.toString(what - 10));
    }
    for (int s = 0; s < told.sorts.size(); s++) {
      int[] row = {people[s], patience[s], firstCoins[s], ill[s]};
      for (int i = 0; i < 4; i++) {
        if (what == 20 + 10 * i + s) {
          return row[i];
        }
      }
    }
    for (int t = 0; t < told.things.size(); t++) {
      if (what == 60 + t) {
        return spoils[t];
      }
      if (what == 70 + t) {
        return storeCost[t];
      }
    }
    return NONE;
  }

  public int earns(int s, int d) {
    return sortIs(s) && in(d, 0, 6) ? earnings[s][d] : RANGE;
  }

  public int price(int t, int d) {
    return thingIs(t) && in(d, 0, 6) ? prices[t][d] : RANGE;
  }

  public int made(int t, int d) {
    return thingIs(t) && in(d, 0, 6) ? makes[t][d] : RANGE;
  }

  public int wants(int s, int d, int what) {
    return sortIs(s) && in(d, 0, 6) && in(what, 0, 2) ? wanted[s][d][what] : RANGE;
  }

  // ---- one person

  private int stamps(int coins, int day) {
    int exact = coins * losses[day];
    return exact / 1000 + (exact % 1000 > 0 ? 1 : 0);
  }

  private int coinsAfter(int coins, int store, int day) {
    int c = coins - stamps(coins, day);
    for (int i = 0; i < store * (stored == NONE ? 0 : storeCost[stored]); i++) {
      if (c > 0) {
        c--;
      }
    }
    return c;
  }

  private int storeAfter(int store) {
    return stored == NONE ? store : store - store * spoils[stored] / 1000;
  }

  public int night(int c, int u, int day) {
    if (!in(c, 0, 60) || !in(u, 0, 5) || !in(day, 0, 6) || told.things.isEmpty() && u > 0) {
      return RANGE;
    }
    return coinsAfter(c, u, day);
  }

  private boolean personIs(int s, int d, int coins, int store) {
    return sortIs(s) && in(d, 0, 6) && in(coins, 0, 60) && in(store, 0, 5);
  }

  private int priceOf(int s, int d, int e, int n) {
    int sum = 0;
    if (e > 0) {
      sum += e * prices[wanted[s][d][0]][d];
    }
    if (n > 0) {
      sum += n * prices[stored][d];
    }
    return sum;
  }

  private boolean mayBe(int s, int d, int coins, int store, int e, int f, int n) {
    if (e + f > wanted[s][d][1] || e > 3 || n > 2) {
      return false;
    }
    if (f > 0 && (wanted[s][d][0] != stored || f > store)) {
      return false;
    }
    if (n > 0 && stored == NONE || store - f + n > 5) {
      return false;
    }
    if ((ill[s] & 1 << d) != 0 && (e > 0 || n > 0)) {
      return false;
    }
    return priceOf(s, d, e, n) <= coins;
  }

  public int may(int s, int d, int coins, int store, int act) {
    if (!personIs(s, d, coins, store) || !in(act, 0, 47)) {
      return RANGE;
    }
    return mayBe(s, d, coins, store, act % 4, act / 4 % 4, act / 16) ? 1 : 0;
  }

  private int actFound;

  /** Best with coins that hold the earned ones of the first day. */
  private int bestOf(int s, int d, int coins, int store, int n, int[][] memo) {
    if (n == 0) {
      return 0;
    }
    int at = coins * 6 + store;
    if (memo[n][at] >= 0) {
      return memo[n][at];
    }
    int best = -1;
    int bestAct = -1;
    for (int act = 0; act < 48; act++) {
      int e = act % 4;
      int f = act / 4 % 4;
      int u = act / 16;
      if (!mayBe(s, d, coins, store, e, f, u)) {
        continue;
      }
      int next = (d + 1) % 7;
      int kept = store - f + u;
      int c = coinsAfter(coins - priceOf(s, d, e, u), kept, d);
      c = Math.min(60, c + earnings[s][next]);
      int follows = bestOf(s, next, c, storeAfter(kept), n - 1, memo);
      int worth = wanted[s][d][2] * (e + f) + follows * patience[s] / 1000;
      if (worth > best) {
        best = worth;
        bestAct = act;
      }
    }
    actFound = bestAct;
    memo[n][at] = best;
    return best;
  }

  private static int[][] freshMemo(int n) {
    int[][] memo = new int[n + 1][366];
    for (int[] row : memo) {
      Arrays.fill(row, -1);
    }
    return memo;
  }

  public int best(int s, int d, int coins, int store, int n) {
    if (!personIs(s, d, coins, store) || !in(n, 0, 28)) {
      return RANGE;
    }
    return bestOf(s, d, Math.min(60, coins + earnings[s][d]), store, n, freshMemo(n));
  }

  public int bestAct(int s, int d, int coins, int store, int n) {
    int best = best(s, d, coins, store, n);
    return best < 0 ? best : n == 0 ? NONE : actFound;
  }

  public int wayAct(int way, int s, int d, int coins, int store) {
    if (!in(way, 0, 4) || !personIs(s, d, coins, store)) {
      return RANGE;
    }
    return actBy(way, s, d, coins, store);
  }

  private int actBy(int way, int s, int d, int coins, int store) {
    if (way == 4) {
      return 0;
    }
    if (way == 3) {
      bestOf(s, d, coins, store, 7, freshMemo(7));
      return actFound;
    }
    int e = 0;
    int f = 0;
    // Unit by unit: what is eaten first by the way, then the other.
    for (int pass = 0; pass < 2; pass++) {
      boolean buys = (pass == 0) == (way != 2);
      for (int i = 0; i < 3; i++) {
        if (buys && mayBe(s, d, coins, store, e + 1, f, 0)) {
          e++;
        }
        if (!buys && mayBe(s, d, coins, store, e, f + 1, 0)) {
          f++;
        }
      }
    }
    int u = 0;
    if (way == 0 || way == 2 && losses[d] > 0) {
      while (mayBe(s, d, coins, store, e, f, u + 1)) {
        u++;
      }
    }
    return 16 * u + 4 * f + e;
  }

  // ---- the run

  private Trip begun(int[] ways) {
    Trip t = new Trip();
    t.ways = ways.clone();
    for (int s = 0; s < told.sorts.size(); s++) {
      t.of[s][0] = firstCoins[s];
    }
    return t;
  }

  private void day(Trip t, boolean bounded, int[][] sold) {
    int d = t.days % 7;
    if (d == 0 && chestSort != NONE) {
      int each = t.chest / people[chestSort];
      t.chest = t.chest % people[chestSort];
      t.of[chestSort][6] += each * people[chestSort];
      t.of[chestSort][0] = Math.min(60, t.of[chestSort][0] + each);
    }
    int[] left = new int[3];
    for (int i = 0; i < told.things.size(); i++) {
      left[i] = bounded && makes[i][d] != NONE ? makes[i][d] : 100000;
    }
    for (int s = 0; s < told.sorts.size(); s++) {
      t.of[s][0] = Math.min(60, t.of[s][0] + earnings[s][d]);
      int act = actBy(t.ways[s], s, d, t.of[s][0], t.of[s][1]);
      int e = act % 4;
      int f = act / 4 % 4;
      int u = act / 16;
      int thing = wanted[s][d][0];
      while (e > 0 && e * people[s] > left[thing]) {
        e--;
      }
      if (e > 0) {
        left[thing] -= e * people[s];
        sold[thing][d] += e * people[s];
      }
      while (u > 0 && u * people[s] > left[stored]) {
        u--;
      }
      if (u > 0) {
        left[stored] -= u * people[s];
        sold[stored][d] += u * people[s];
      }
      int price = priceOf(s, d, e, u);
      t.of[s][0] -= price;
      t.of[s][1] += u - f;
      t.of[s][2] += people[s] * price;
      t.of[s][4] += people[s] * (e + f) * wanted[s][d][2];
      t.bought += people[s] * (e + u);
      t.held += people[s] * t.of[s][0];
    }
    for (int s = 0; s < told.sorts.size(); s++) {
      int stamps = people[s] * stamps(t.of[s][0], d);
      t.of[s][3] += stamps;
      t.chest += stamps;
      t.of[s][0] = coinsAfter(t.of[s][0], t.of[s][1], d);
      t.of[s][5] += people[s] * (t.of[s][1] - storeAfter(t.of[s][1]));
      t.of[s][1] = storeAfter(t.of[s][1]);
    }
    t.days++;
  }

  public int way(int s, int way) {
    if (!sortIs(s) || !in(way, 0, 4)) {
      return RANGE;
    }
    int before = trip.ways[s];
    trip.ways[s] = way;
    return before;
  }

  public int pass(int n) {
    if (!in(n, 0, 70)) {
      return RANGE;
    }
    for (int i = 0; i < n; i++) {
      day(trip, true, new int[3][7]);
    }
    return trip.days;
  }

  public int run(int s, int what) {
    return sortIs(s) && in(what, 0, 6) ? trip.of[s][what] : RANGE;
  }

  public int all(int what) {
    if (what == 2) {
      long paid = 0;
      for (int[] of : trip.of) {
        paid += of[2];
      }
      return trip.held == 0 ? NONE : (int) Math.min(Integer.MAX_VALUE, paid * 1000 / trip.held);
    }
    return what == 0 ? trip.chest : what == 1 ? trip.days : what == 3 ? trip.bought : NONE;
  }

  public int anew() {
    int days = trip.days;
    trip = begun(trip.ways);
    return days;
  }

  public int keep(int slot) {
    if (!in(slot, 0, 2)) {
      return RANGE;
    }
    slots[slot] = trip.copy();
    return trip.days;
  }

  public int take(int slot) {
    if (!in(slot, 0, 2)) {
      return RANGE;
    }
    if (slots[slot] == null) {
      return STATE;
    }
    trip = slots[slot].copy();
    return trip.days;
  }

  // ---- rates, prices

  public int worthAt(int rate, int w) {
    if (!in(rate, 0, 18) || !in(w, 1, 4)) {
      return RANGE;
    }
    int[] before = losses.clone();
    for (int d = 0; d < 7; d++) {
      losses[d] = before[d] > 0 ? 50 * rate : 0;
    }
    Trip t = begun(trip.ways);
    for (int i = 0; i < 7 * w; i++) {
      day(t, true, new int[3][7]);
    }
    losses = before;
    int sum = 0;
    for (int[] of : t.of) {
      sum += of[4];
    }
    return sum;
  }

  public int rate(int w) {
    if (!in(w, 1, 4)) {
      return RANGE;
    }
    int best = 0;
    for (int rate = 1; rate <= 18; rate++) {
      if (worthAt(rate, w) > worthAt(best, w)) {
        best = rate;
      }
    }
    return best;
  }

  public int rest(int from) {
    if (!in(from, 0, 1)) {
      return RANGE;
    }
    if (from == 1) {
      tellPrices();
    }
    for (turns = 1; turns <= 60; turns++) {
      Trip t = begun(trip.ways);
      int[][] sold = new int[3][7];
      for (int i = 0; i < 7; i++) {
        day(t, false, sold);
      }
      boolean changed = false;
      for (int i = 0; i < told.things.size(); i++) {
        for (int d = 0; d < 7; d++) {
          if (makes[i][d] == NONE) {
            continue;
          }
          int before = prices[i][d];
          int wish = before + Integer.compare(sold[i][d], makes[i][d]);
          prices[i][d] = Math.max(1, Math.min(20, wish));
          changed |= prices[i][d] != before;
        }
      }
      if (!changed) {
        return 1;
      }
    }
    turns = 60;
    return 0;
  }

  public int restTurns() {
    return turns;
  }

  // ---- two moneys, lending, meeting

  private int twoOffer;

  private int twoWorth(int a, int g, int p, int q, int n, int r) {
    if (n == 0 || a == 0 && g == 0) {
      twoOffer = NONE;
      return 0;
    }
    int lost = n % r == 0 ? 1 : 0;
    int note = -1;
    int other = -1;
    int same = twoMemo(Math.max(0, a - lost), g, p, q, n - 1, r);
    if (a > 0) {
      note = (p * (1000 + twoMemo(Math.max(0, a - 1 - lost), g, p, q, n - 1, r))
          + (100 - p) * same) / 100;
    }
    if (g > 0) {
      other = (q * (1000 + twoMemo(Math.max(0, a - lost), g - 1, p, q, n - 1, r))
          + (100 - q) * same) / 100;
    }
    twoOffer = note >= other ? 0 : 1;
    return Math.max(note, other);
  }

  private final Map<Integer, Integer> twoSeen = new HashMap<>();

  private int twoMemo(int a, int g, int p, int q, int n, int r) {
    int key = (a * 10 + g) * 100 + n;
    Integer seen = twoSeen.get(key);
    if (seen == null) {
      seen = twoWorth(a, g, p, q, n, r);
      twoSeen.put(key, seen);
    }
    return seen;
  }

  public int two(int a, int g, int p, int q, int n, int r, int what) {
    if (!in(a, 0, 9) || !in(g, 0, 9) || !in(p, 0, 100) || !in(q, 0, 100) || !in(n, 0, 20)
        || !in(r, 1, 20) || !in(what, 0, 1)) {
      return RANGE;
    }
    twoSeen.clear();
    int worth = twoWorth(a, g, p, q, n, r);
    return what == 0 ? worth : twoOffer;
  }

  public int lend(int c, int w, int y, int what) {
    if (!in(c, 0, 999) || !in(w, 0, 52) || !in(y, 0, 1000) || !in(what, 0, 1)) {
      return RANGE;
    }
    int x = c;
    for (int i = 0; i < w; i++) {
      if (what == 0) {
        x = x * (1000 - y) / 1000;
      } else {
        for (int d = 0; d < 7; d++) {
          x -= stamps(x, d);
        }
      }
    }
    return x;
  }

  public int early(int c, int d, int day) {
    if (!in(c, 0, 999) || !in(d, 0, 60) || !in(day, 0, 6)) {
      return RANGE;
    }
    for (int notes = 0; notes <= 999; notes++) {
      int x = notes;
      for (int i = 0; i < d; i++) {
        x -= stamps(x, (day + i) % 7);
      }
      if (x >= c) {
        return notes;
      }
    }
    return NONE;
  }

  public int values() {
    String text = tape.toString();
    tape.setLength(0);
    String row = "[ \n]*([0-9]{1,4})[ \n]+([0-9]{1,4})[ \n]*;";
    StringBuilder whole = new StringBuilder();
    for (int i = 0; i < told.sorts.size(); i++) {
      whole.append(row);
    }
    java.util.regex.Matcher m =
        java.util.regex.Pattern.compile(whole.append("[ \n]*").toString()).matcher(text);
    if (!m.matches()) {
      return NONE;
    }
    int[] read = new int[m.groupCount()];
    for (int i = 0; i < read.length; i++) {
      read[i] = Integer.parseInt(m.group(i + 1));
      if (read[i] > 99) {
        return NONE;
      }
    }
    for (int i = 0; i < read.length; i += 2) {
      worths[i / 2] = read[i];
      costs[i / 2] = read[i + 1];
    }
    return 1;
  }

  private int met(int set, int m) {
    int in = 0;
    int all = 0;
    for (int s = 0; s < told.sorts.size(); s++) {
      all += people[s];
      in += (set & 1 << s) != 0 ? people[s] : 0;
    }
    return 10 * m * in / all;
  }

  /** WITH (t) and WITHOUT (t), by the terms' own steps back. */
  private long[] meeting(int s, int set, int m, int r, int t) {
    if (t == 0) {
      return new long[] {0, 0};
    }
    long[] before = meeting(s, set, m, r, t - 1);
    long met = met(set, m);
    long sum = met * (1000L * worths[s] + before[1]) + (1000 - met) * before[0];
    long f = Math.max(before[0], sum / 1000);
    long without = before[1];
    if ((set & 1 << s) != 0) {
      without = (10L * m * (before[0] - 1000L * costs[s]) + (1000 - 10L * m) * before[1]) / 1000;
    }
    return new long[] {f - f * r / 1000, without};
  }

  public int meet(int s, int set, int m, int r, int t, int what) {
    if (!sortIs(s) || !in(set, 0, (1 << told.sorts.size()) - 1) || !in(m, 0, 100)
        || !in(r, 0, 900) || !in(t, 0, 40) || !in(what, 0, 1)) {
      return -1000000;
    }
    return (int) meeting(s, set, m, r, t)[what];
  }

  public int rests(int m, int r, int t) {
    if (!in(m, 0, 100) || !in(r, 0, 900) || !in(t, 0, 40)) {
      return RANGE;
    }
    int bits = 0;
    for (int set = 0; set < 1 << told.sorts.size(); set++) {
      boolean still = true;
      for (int s = 0; s < told.sorts.size(); s++) {
        long[] both = meeting(s, set, m, r, t);
        boolean gains = both[0] - both[1] >= 1000L * costs[s];
        still &= gains == ((set & 1 << s) != 0);
      }
      bits |= still ? 1 << set : 0;
    }
    return bits;
  }

  public int book() {
    faultKind = 0;
    faultPlace = NONE;
    List<Token> tokens = tokens();
    List<List<String>> trades = new ArrayList<>();
    try {
      for (int at = 0; !tokens.get(at).text.isEmpty(); at += 6) {
        trades.add(parts(told, tokens, at, "", "sort thing day units asked"));
      }
    } catch (Fault f) {
      faultKind = f.kind;
      faultPlace = f.place;
      return NONE;
    }
    for (int i = 0; i < trades.size(); i++) {
      if (lost(trades.get(i))) {
        return i;
      }
    }
    return FULL;
  }

  private boolean lost(List<String> trade) {
    int s = told.sorts.indexOf(trade.get(1));
    int thing = told.things.indexOf(trade.get(2));
    int d = Integer.parseInt(trade.get(3));
    int units = Integer.parseInt(trade.get(4));
    int price = Integer.parseInt(trade.get(5));
    int[] want = wanted[s][d];
    if (want[0] != thing || want[1] < units) {
      return true;
    }
    if (want[2] >= price) {
      return false;
    }
    return losses[d] == 0 || want[2] * 1000 < price * (1000 - losses[d]);
  }

  public int count(int what) {
    return what == 0 ? told.clauses.size() : what == 1 ? tape.length() : NONE;
  }
}
