import java.util.Arrays;

/** A town whose notes rot: the document's promises say what each call answers and changes. */
public final class RotMoney {
  public static final int NONE = -1;
  public static final int RANGE = -2;
  public static final int FULL = -3;
  public static final int STATE = -4;

  private static final int MOST_BYTES = 900;
  private static final int MOST_LETTERS = 8;
  private static final int MOST_DIGITS = 4;
  private static final int MOST_SORTS = 4;
  private static final int MOST_THINGS = 3;
  private static final int MOST_PARTS = 5;
  private static final int WEEK = 7;
  private static final int MOST_COINS = 60;
  private static final int MOST_STORE = 5;
  private static final int MOST_STORED_A_DAY = 2;
  private static final int MOST_AHEAD = 28;
  private static final int MOST_TURNS = 60;
  private static final int MOST_RATE = 18;
  private static final int RATE_STEP = 50;
  private static final int MOST_WEEKS = 4;
  private static final int MOST_DEBT = 999;
  private static final int SLOTS = 3;
  private static final int ACTS = 48;
  private static final int PURSES = MOST_COINS + 1;
  private static final int STORES = MOST_STORE + 1;
  private static final int UNTOLD_PRICE = 5;
  private static final int DEAREST = 20;
  // More than all people of a town can buy on one day.
  private static final int ENDLESS = 1000000;
  private static final int NO_MEETING = -1000000;
  private static final long MOST_INT = 2147483647L;

  private static final int SPEND = 0;
  private static final int KEEP = 1;
  private static final int STORE_FIRST = 2;
  private static final int BEST = 3;
  private static final int FAST = 4;

  // What THE RUN knows of a sort, by the numbers that run() asks with.
  private static final int COINS = 0;
  private static final int STORED = 1;
  private static final int PAID = 2;
  private static final int STAMPS = 3;
  private static final int EATEN = 4;
  private static final int LOST = 5;
  private static final int GOT = 6;
  private static final int FACTS = 7;

  private static final int END = 0;
  private static final int WORD = 1;
  private static final int NUMBER = 2;
  private static final int SEMICOLON = 3;
  private static final int STRANGE = 4;

  private static final int SYNTAX = 1;
  private static final int OUTSIDE = 2;
  private static final int TWICE = 3;
  private static final int ROOM = 4;
  private static final int UNKNOWN = 5;

  private static final int ROT = 0;
  private static final int SORT = 1;
  private static final int THING = 2;
  private static final int EARN = 3;
  private static final int PRICE = 4;
  private static final int MAKE = 5;
  private static final int WANT = 6;
  private static final int ILL = 7;
  private static final int CHEST = 8;
  private static final int STORE = 9;
  private static final int CLAUSES = 10;
  // No clauses of a town, but read by parts in the same way.
  private static final int TRADE = 10;
  private static final int VALUE_ROW = 11;
  private static final int SHAPES = 12;

  private final Tape tape;
  private final Reader reader;
  private final Market market;
  private final Planner planner;
  private final Walk walk;
  private final Run course;
  private final Run trial;
  private final Run[] slots;
  private final TwoMoneys moneys;
  private final Meeting meeting;
  private Town spare;
  private int turns;

  public RotMoney() {
    tape = new Tape();
    reader = new Reader(tape);
    market = new Market(new Town());
    spare = new Town();
    planner = new Planner(market);
    walk = new Walk(market, planner);
    course = new Run();
    trial = new Run();
    slots = new Run[SLOTS];
    for (int i = 0; i < SLOTS; i++) {
      slots[i] = new Run();
    }
    moneys = new TwoMoneys();
    meeting = new Meeting();
    settle();
  }

  public int feed(int a, int b, int c, int d, int e) {
    if (tape.length + 20 > MOST_BYTES) {
      return FULL;
    }
    tape.put(a);
    tape.put(b);
    tape.put(c);
    tape.put(d);
    tape.put(e);
    return tape.length;
  }

  public int end(int n) {
    if (n < 0 || n > tape.length) {
      return NONE;
    }
    tape.length = n;
    return n;
  }

  public int town() {
    boolean fine = reader.readTown(spare);
    tape.length = 0;
    if (!fine) {
      return NONE;
    }
    Town before = market.town;
    market.town = spare;
    spare = before;
    settle();
    return market.town.clauses;
  }

  public int fault(int what) {
    return what == 0 ? reader.faultKind : what == 1 ? reader.faultPlace : NONE;
  }

  public int told(int what) {
    Town town = market.town;
    switch (what) {
      case 0: return town.sorts;
      case 1: return town.things;
      case 2: return town.chest;
      case 3: return town.stored;
      default: break;
    }
    int row = what / 10;
    int at = what % 10;
    if (at < 0) {
      return NONE;
    }
    if (row == 1) {
      return at < WEEK ? town.losses[at] : NONE;
    }
    if (row == 6 || row == 7) {
      return at < town.things ? (row == 6 ? town.spoils[at] : town.costs[at]) : NONE;
    }
    return at < town.sorts ? toldOfSort(town, row, at) : NONE;
  }

  private static int toldOfSort(Town town, int row, int sort) {
    switch (row) {
      case 2: return town.people[sort];
      case 3: return town.patience[sort];
      case 4: return town.firstCoins[sort];
      case 5: return town.illDays[sort];
      default: return NONE;
    }
  }

  public int earns(int sort, int day) {
    return isSort(sort) && isDay(day) ? market.town.earnings[sort * WEEK + day] : RANGE;
  }

  public int price(int thing, int day) {
    return isThing(thing) && isDay(day) ? market.prices[thing * WEEK + day] : RANGE;
  }

  public int made(int thing, int day) {
    return isThing(thing) && isDay(day) ? market.town.makes[thing * WEEK + day] : RANGE;
  }

  public int wants(int sort, int day, int what) {
    if (!isSort(sort) || !isDay(day)) {
      return RANGE;
    }
    int at = sort * WEEK + day;
    switch (what) {
      case 0: return market.town.wantThings[at];
      case 1: return market.town.wantUnits[at];
      case 2: return market.town.wantWorths[at];
      default: return RANGE;
    }
  }

  public int night(int c, int u, int day) {
    if (!isHeld(c, u) || !isDay(day) || market.town.things == 0 && u > 0) {
      return RANGE;
    }
    return market.coinsBehind(c, u, day);
  }

  public int may(int sort, int day, int coins, int store, int act) {
    if (!isPerson(sort, day, coins, store) || act < 0 || act >= ACTS) {
      return RANGE;
    }
    Terms terms = walk.terms;
    terms.load(market, sort, day);
    return terms.allow(coins, store, act) ? 1 : 0;
  }

  public int best(int sort, int day, int coins, int store, int n) {
    if (!isPerson(sort, day, coins, store) || !within(n, 0, MOST_AHEAD)) {
      return RANGE;
    }
    if (n == 0) {
      return 0;
    }
    planner.search(sort, day, market.earned(sort, day, coins), store, n);
    return planner.bestWorth;
  }

  public int bestAct(int sort, int day, int coins, int store, int n) {
    if (!isPerson(sort, day, coins, store) || !within(n, 0, MOST_AHEAD)) {
      return RANGE;
    }
    if (n == 0) {
      return NONE;
    }
    return planner.search(sort, day, market.earned(sort, day, coins), store, n);
  }

  public int wayAct(int way, int sort, int day, int coins, int store) {
    if (!isWay(way) || !isPerson(sort, day, coins, store)) {
      return RANGE;
    }
    if (way == BEST) {
      return planner.search(sort, day, coins, store, WEEK);
    }
    Terms terms = walk.terms;
    terms.load(market, sort, day);
    return terms.habit(way, coins, store);
  }

  public int way(int sort, int way) {
    if (!isSort(sort) || !isWay(way)) {
      return RANGE;
    }
    int before = course.ways[sort];
    course.ways[sort] = way;
    return before;
  }

  public int pass(int n) {
    if (n < 0 || n > 70) {
      return RANGE;
    }
    for (int i = 0; i < n; i++) {
      walk.passDay(course, true);
    }
    return course.days;
  }

  public int run(int sort, int what) {
    if (!isSort(sort) || what < 0 || what >= FACTS) {
      return RANGE;
    }
    return course.facts[sort * FACTS + what];
  }

  public int all(int what) {
    switch (what) {
      case 0: return course.chest;
      case 1: return course.days;
      case 2: return course.round();
      case 3: return course.bought;
      default: return NONE;
    }
  }

  public int anew() {
    int before = course.days;
    course.begin(market.town);
    return before;
  }

  public int keep(int slot) {
    if (slot < 0 || slot >= SLOTS) {
      return RANGE;
    }
    slots[slot].become(course);
    return course.days;
  }

  public int take(int slot) {
    if (slot < 0 || slot >= SLOTS) {
      return RANGE;
    }
    if (slots[slot].days == NONE) {
      return STATE;
    }
    course.become(slots[slot]);
    return course.days;
  }

  public int worthAt(int rate, int w) {
    return rate < 0 || rate > MOST_RATE || !isWeeks(w) ? RANGE : worthOfAll(rate, w);
  }

  public int rate(int w) {
    if (!isWeeks(w)) {
      return RANGE;
    }
    int most = worthOfAll(0, w);
    int least = 0;
    for (int rate = 1; rate <= MOST_RATE; rate++) {
      int worth = worthOfAll(rate, w);
      if (worth > most) {
        most = worth;
        least = rate;
      }
    }
    return least;
  }

  public int rest(int from) {
    if (from != 0 && from != 1) {
      return RANGE;
    }
    if (from == 1) {
      market.pricesAsTold();
    }
    boolean still = false;
    turns = 0;
    while (turns < MOST_TURNS && !still) {
      turns++;
      still = !turnChanges();
    }
    return still ? 1 : 0;
  }

  public int restTurns() {
    return turns;
  }

  public int two(int a, int g, int p, int q, int n, int r, int what) {
    if (!within(a, 0, 9) || !within(g, 0, 9) || !within(p, 0, 100) || !within(q, 0, 100)) {
      return RANGE;
    }
    if (!within(n, 0, 20) || !within(r, 1, 20) || !within(what, 0, 1)) {
      return RANGE;
    }
    if (n == 0 || a + g == 0) {
      return what == 0 ? 0 : NONE;
    }
    moneys.takenAt(p, q);
    moneys.lookBack(a, g, n, r);
    int note = moneys.offeringNote(a, g);
    int other = moneys.offeringOther(a, g);
    if (what == 0) {
      return Math.max(note, other);
    }
    return note >= other ? 0 : 1;
  }

  public int lend(int c, int w, int y, int what) {
    if (!within(c, 0, MOST_DEBT) || !within(w, 0, 52) || !within(y, 0, 1000)) {
      return RANGE;
    }
    if (what != 0 && what != 1) {
      return RANGE;
    }
    int left = c;
    for (int week = 0; week < w; week++) {
      left = what == 0 ? left * (1000 - y) / 1000 : market.heldForWeek(left);
    }
    return left;
  }

  public int early(int c, int d, int day) {
    if (!within(c, 0, MOST_DEBT) || !within(d, 0, 60) || !isDay(day)) {
      return RANGE;
    }
    int needed = c;
    // Back from the last night: more notes ahead of a night never leave fewer behind it.
    for (int night = d - 1; night >= 0; night--) {
      needed = market.neededAhead(needed, (day + night) % WEEK);
      if (needed > MOST_DEBT) {
        return NONE;
      }
    }
    return needed;
  }

  public int values() {
    boolean fine = reader.readValues(market.town, meeting.draft);
    tape.length = 0;
    if (!fine) {
      return NONE;
    }
    meeting.takeDraft();
    return 1;
  }

  public int meet(int sort, int set, int m, int r, int t, int what) {
    if (!isSort(sort) || set < 0 || set >= 1 << market.town.sorts || !isMeeting(m, r, t)) {
      return NO_MEETING;
    }
    if (what != 0 && what != 1) {
      return NO_MEETING;
    }
    meeting.start(market.town, set, m);
    meeting.goOn(sort, r, t);
    return (int) (what == 0 ? meeting.with : meeting.without);
  }

  public int rests(int m, int r, int t) {
    if (!isMeeting(m, r, t)) {
      return RANGE;
    }
    int sets = 1 << market.town.sorts;
    int found = 0;
    for (int set = 0; set < sets; set++) {
      meeting.start(market.town, set, m);
      if (meeting.isAtRest(r, t)) {
        found |= 1 << set;
      }
    }
    return found;
  }

  public int book() {
    int answer = reader.readBook(market.town);
    tape.length = 0;
    return answer;
  }

  public int count(int what) {
    return what == 0 ? market.town.clauses : what == 1 ? tape.length : NONE;
  }

  /** All that begins anew with a town. */
  private void settle() {
    market.open();
    course.begin(market.town);
    Arrays.fill(course.ways, KEEP);
    for (int i = 0; i < SLOTS; i++) {
      slots[i].days = NONE;
    }
    meeting.forget();
    turns = NONE;
  }

  private int worthOfAll(int rate, int weeks) {
    trial.become(course);
    trial.begin(market.town);
    market.lossesAt(rate * RATE_STEP);
    for (int i = 0; i < weeks * WEEK; i++) {
      walk.passDay(trial, true);
    }
    market.lossesAsTold();
    return trial.sum(EATEN);
  }

  /** One turn of the search for prices at rest: whether it changed a price. */
  private boolean turnChanges() {
    trial.become(course);
    trial.begin(market.town);
    Arrays.fill(walk.sold, 0);
    for (int i = 0; i < WEEK; i++) {
      walk.passDay(trial, false);
    }
    return market.movePrices(walk.sold);
  }

  private boolean isSort(int sort) {
    return sort >= 0 && sort < market.town.sorts;
  }

  private boolean isThing(int thing) {
    return thing >= 0 && thing < market.town.things;
  }

  private boolean isPerson(int sort, int day, int coins, int store) {
    return isSort(sort) && isDay(day) && isHeld(coins, store);
  }

  private static boolean isDay(int day) {
    return day >= 0 && day < WEEK;
  }

  private static boolean isHeld(int coins, int store) {
    return within(coins, 0, MOST_COINS) && within(store, 0, MOST_STORE);
  }

  private static boolean isWay(int way) {
    return within(way, SPEND, FAST);
  }

  private static boolean isWeeks(int weeks) {
    return within(weeks, 1, MOST_WEEKS);
  }

  private static boolean isMeeting(int m, int r, int t) {
    return within(m, 0, 100) && within(r, 0, 900) && within(t, 0, 40);
  }

  private static boolean within(int n, int least, int most) {
    return n >= least && n <= most;
  }

  /** How many units coins buy; 0 where there is no price. */
  private static int affordable(int coins, int price) {
    return price < 1 ? 0 : coins / price;
  }

  private static int stampsOf(int coins, int loss) {
    return (coins * loss + 999) / 1000;
  }

  /** THE TAPE, and the token of it that was read last. */
  private static final class Tape {
    final byte[] bytes = new byte[MOST_BYTES];
    int length;
    int token;
    int place;
    int value;
    // A word's letters, a byte each, so that two words are alike if these numbers are.
    long word;
    private int at;

    Tape() {
      length = 0;
    }

    void put(int four) {
      for (int shift = 24; shift >= 0; shift -= 8) {
        if (length < MOST_BYTES) {
          bytes[length] = (byte) (four >> shift);
          length++;
        }
      }
    }

    void rewind() {
      at = 0;
    }

    void next() {
      while (at < length && (bytes[at] == ' ' || bytes[at] == '\n')) {
        at++;
      }
      place = at;
      if (at >= length) {
        token = END;
      } else if (isLetter(bytes[at])) {
        readWord();
      } else if (isDigit(bytes[at])) {
        readNumber();
      } else {
        token = bytes[at] == ';' ? SEMICOLON : STRANGE;
        at++;
      }
    }

    private void readWord() {
      word = 0;
      while (at < length && isLetter(bytes[at])) {
        word = word << 8 | bytes[at];
        at++;
      }
      token = at - place > MOST_LETTERS ? STRANGE : WORD;
    }

    private void readNumber() {
      value = 0;
      while (at < length && isDigit(bytes[at])) {
        value = value * 10 + bytes[at] - '0';
        at++;
      }
      token = at - place > MOST_DIGITS ? STRANGE : NUMBER;
    }

    private static boolean isLetter(byte b) {
      return b >= 'a' && b <= 'z';
    }

    private static boolean isDigit(byte b) {
      return b >= '0' && b <= '9';
    }
  }

  /** Reads THE TAPE as a town, a book or a row of values. */
  private static final class Reader {
    int faultKind;
    int faultPlace;
    private final Tape tape;
    private final int[] parts = new int[MOST_PARTS];

    Reader(Tape tape) {
      this.tape = tape;
      faultKind = 0;
      faultPlace = NONE;
    }

    /** Whether the tape is a town; if not, what the given one holds is of no use. */
    boolean readTown(Town town) {
      town.forget();
      note(0);
      tape.rewind();
      for (int i = 0; i <= MOST_BYTES; i++) {
        tape.next();
        if (tape.token == END) {
          break;
        }
        int clause = clauseAtHand();
        int kind = clause == NONE ? SYNTAX : town.faultAhead(clause);
        if (kind == 0) {
          tape.next();
          kind = faultInParts(clause, town);
        }
        if (kind != 0) {
          note(kind);
          return false;
        }
        town.tell(clause, parts);
      }
      return true;
    }

    /** The first trade by which one lost, as book() tells it. */
    int readBook(Town town) {
      int first = FULL;
      note(0);
      tape.rewind();
      for (int trade = 0; trade <= MOST_BYTES; trade++) {
        tape.next();
        if (tape.token == END) {
          break;
        }
        int kind = faultInParts(TRADE, town);
        if (kind != 0) {
          note(kind);
          return NONE;
        }
        if (first == FULL && town.isLoss(parts)) {
          first = trade;
        }
      }
      return first;
    }

    /** Whether the tape has a worth and a cost for just each sort. */
    boolean readValues(Town town, int[] into) {
      tape.rewind();
      for (int row = 0; row < town.sorts; row++) {
        tape.next();
        if (faultInParts(VALUE_ROW, town) != 0 || 2 * row + 1 >= into.length) {
          return false;
        }
        into[2 * row] = parts[0];
        into[2 * row + 1] = parts[1];
      }
      tape.next();
      return tape.token == END;
    }

    private void note(int kind) {
      faultKind = kind;
      faultPlace = kind == 0 ? NONE : tape.place;
    }

    private int clauseAtHand() {
      for (int clause = 0; tape.token == WORD && clause < CLAUSES; clause++) {
        if (lettersOf(wordOf(clause)) == tape.word) {
          return clause;
        }
      }
      return NONE;
    }

    /** The fault of a clause's parts, from the token at hand to the semicolon; 0 without. */
    private int faultInParts(int clause, Town town) {
      String shape = shapeOf(clause);
      for (int i = 0; i < shape.length() && i < MOST_PARTS; i++) {
        char part = shape.charAt(i);
        boolean named = part >= 'a' && part <= 'z';
        if (tape.token != (named ? WORD : NUMBER)) {
          return SYNTAX;
        }
        int kind = named ? faultOfName(part, clause, i, town) : faultOfNumber(part, clause, i, town);
        if (kind != 0) {
          return kind;
        }
        tape.next();
      }
      return tape.token == SEMICOLON ? 0 : SYNTAX;
    }

    private int faultOfName(char part, int clause, int i, Town town) {
      boolean ofSort = part == 's' || part == 'n';
      int found = ofSort ? town.sortNamed(tape.word) : town.thingNamed(tape.word);
      if (part == 'n' || part == 'm') {
        if (found != NONE) {
          return TWICE;
        }
        town.name(part == 'n', tape.word);
        return 0;
      }
      if (found == NONE) {
        return UNKNOWN;
      }
      parts[i] = found;
      return clause == ILL && town.isTold(ILL, found, 0) ? TWICE : 0;
    }

    private int faultOfNumber(char part, int clause, int i, Town town) {
      int n = tape.value;
      if (n < leastOf(part) || n > mostOf(part)) {
        return OUTSIDE;
      }
      parts[i] = n;
      if (part != 'D') {
        return 0;
      }
      return town.isTold(clause, clause == ROT ? 0 : parts[0], n) ? TWICE : 0;
    }

    private static long lettersOf(String text) {
      long letters = 0;
      for (int i = 0; i < text.length(); i++) {
        letters = letters << 8 | text.charAt(i);
      }
      return letters;
    }

    private static String wordOf(int clause) {
      switch (clause) {
        case ROT: return "rot";
        case SORT: return "sort";
        case THING: return "thing";
        case EARN: return "earn";
        case PRICE: return "price";
        case MAKE: return "make";
        case WANT: return "want";
        case ILL: return "ill";
        case CHEST: return "chest";
        default: return "store";
      }
    }

    /**
     * A clause's parts behind its word. Names: n a sort's new one, m a thing's new one, s a sort's,
     * t a thing's. Numbers: D a day; mostOf tells the others' bounds.
     */
    private static String shapeOf(int clause) {
      switch (clause) {
        case ROT: return "DL";
        case SORT: return "nPHC";
        case THING: return "mHG";
        case EARN: return "sDE";
        case PRICE: return "tDE";
        case MAKE: return "tDM";
        case WANT: return "stDUV";
        case ILL: return "sI";
        case CHEST: return "s";
        case STORE: return "t";
        case TRADE: return "stDUP";
        default: return "VV";
      }
    }

    private static int leastOf(char part) {
      return part == 'P' || part == 'E' || part == 'U' || part == 'I' ? 1 : 0;
    }

    private static int mostOf(char part) {
      switch (part) {
        case 'D': return WEEK - 1;
        case 'L': return 900;
        case 'P': return 99;
        case 'H': return 1000;
        case 'C': return MOST_COINS;
        case 'G': return 9;
        case 'E': return DEAREST;
        case 'M': return 999;
        case 'U': return 3;
        case 'I': return 127;
        default: return 99;
      }
    }
  }

  /** What is told of a town. Rows by days have a week for each sort or thing. */
  private static final class Town {
    int clauses;
    int sorts;
    int things;
    int chest;
    int stored;
    final int[] losses = new int[WEEK];
    final int[] people = new int[MOST_SORTS];
    final int[] patience = new int[MOST_SORTS];
    final int[] firstCoins = new int[MOST_SORTS];
    final int[] illDays = new int[MOST_SORTS];
    final int[] earnings = new int[MOST_SORTS * WEEK];
    final int[] wantThings = new int[MOST_SORTS * WEEK];
    final int[] wantUnits = new int[MOST_SORTS * WEEK];
    final int[] wantWorths = new int[MOST_SORTS * WEEK];
    final int[] spoils = new int[MOST_THINGS];
    final int[] costs = new int[MOST_THINGS];
    final int[] prices = new int[MOST_THINGS * WEEK];
    final int[] makes = new int[MOST_THINGS * WEEK];
    // Those of sorts, then, from MOST_SORTS on, those of things.
    private final long[] names = new long[MOST_SORTS + MOST_THINGS];
    // By clause and whom it tells of: the days that are told, as bits.
    private final int[] toldDays = new int[SHAPES * MOST_SORTS];

    Town() {
      forget();
    }

    void forget() {
      clauses = 0;
      sorts = 0;
      things = 0;
      chest = NONE;
      stored = NONE;
      Arrays.fill(losses, 0);
      Arrays.fill(illDays, 0);
      Arrays.fill(earnings, 0);
      Arrays.fill(wantThings, NONE);
      Arrays.fill(wantUnits, 0);
      Arrays.fill(wantWorths, 0);
      Arrays.fill(prices, UNTOLD_PRICE);
      Arrays.fill(makes, NONE);
      Arrays.fill(toldDays, 0);
    }

    int sortNamed(long word) {
      return named(word, 0, sorts);
    }

    int thingNamed(long word) {
      return named(word, MOST_SORTS, things);
    }

    private int named(long word, int from, int many) {
      for (int i = 0; i < many; i++) {
        if (names[from + i] == word) {
          return i;
        }
      }
      return NONE;
    }

    /** Holds a new name, which counts only when its clause is told. */
    void name(boolean ofSort, long word) {
      names[ofSort ? sorts : MOST_SORTS + things] = word;
    }

    boolean isTold(int clause, int of, int day) {
      return (toldDays[clause * MOST_SORTS + of] >> day & 1) != 0;
    }

    /** The fault that a clause's word has already. */
    int faultAhead(int clause) {
      if (clause == SORT && sorts == MOST_SORTS || clause == THING && things == MOST_THINGS) {
        return ROOM;
      }
      return (clause == CHEST || clause == STORE) && isTold(clause, 0, 0) ? TWICE : 0;
    }

    void tell(int clause, int[] parts) {
      clauses++;
      switch (clause) {
        case ROT: tellLoss(parts[0], parts[1]); break;
        case SORT: tellSort(parts); break;
        case THING: tellThing(parts); break;
        case EARN: tellOn(earnings, clause, parts); break;
        case PRICE: tellOn(prices, clause, parts); break;
        case MAKE: tellOn(makes, clause, parts); break;
        case WANT: tellWant(parts); break;
        case ILL:
          illDays[parts[0]] = parts[1];
          hold(ILL, parts[0], 0);
          break;
        case CHEST:
          chest = parts[0];
          hold(CHEST, 0, 0);
          break;
        default:
          stored = parts[0];
          hold(STORE, 0, 0);
          break;
      }
    }

    private void tellLoss(int day, int loss) {
      losses[day] = loss;
      hold(ROT, 0, day);
    }

    private void tellSort(int[] parts) {
      people[sorts] = parts[1];
      patience[sorts] = parts[2];
      firstCoins[sorts] = parts[3];
      sorts++;
    }

    private void tellThing(int[] parts) {
      spoils[things] = parts[1];
      costs[things] = parts[2];
      things++;
      if (stored == NONE) {
        stored = 0;
      }
    }

    private void tellOn(int[] row, int clause, int[] parts) {
      row[parts[0] * WEEK + parts[1]] = parts[2];
      hold(clause, parts[0], parts[1]);
    }

    private void tellWant(int[] parts) {
      int at = parts[0] * WEEK + parts[2];
      wantThings[at] = parts[1];
      wantUnits[at] = parts[3];
      wantWorths[at] = parts[4];
      hold(WANT, parts[0], parts[2]);
    }

    private void hold(int clause, int of, int day) {
      toldDays[clause * MOST_SORTS + of] |= 1 << day;
    }

    /** Whether a trade's buyer lost by it; its parts: sort, thing, day, units, price. */
    boolean isLoss(int[] trade) {
      int day = trade[2];
      int at = trade[0] * WEEK + day;
      if (wantThings[at] != trade[1] || wantUnits[at] < trade[3]) {
        return true;
      }
      int worth = wantWorths[at];
      int price = trade[4];
      boolean rotsElse = losses[day] > 0 && worth * 1000 >= price * (1000 - losses[day]);
      return worth < price && !rotsElse;
    }
  }

  /** A town with the prices and the losses of notes as they are. */
  private static final class Market {
    Town town;
    final int[] prices = new int[MOST_THINGS * WEEK];
    final int[] losses = new int[WEEK];
    // By days and coins: what STAMPS leave.
    final int[] behindStamps = new int[WEEK * PURSES];
    // By stores: what a night costs, and what it leaves.
    final int[] storeCosts = new int[STORES];
    final int[] storesBehind = new int[STORES];

    Market(Town town) {
      this.town = town;
    }

    void open() {
      int cost = town.stored == NONE ? 0 : town.costs[town.stored];
      int spoils = town.stored == NONE ? 0 : town.spoils[town.stored];
      for (int store = 0; store < STORES; store++) {
        storeCosts[store] = store * cost;
        storesBehind[store] = store - store * spoils / 1000;
      }
      pricesAsTold();
      lossesAsTold();
    }

    void pricesAsTold() {
      System.arraycopy(town.prices, 0, prices, 0, prices.length);
    }

    void lossesAsTold() {
      System.arraycopy(town.losses, 0, losses, 0, WEEK);
      stampAll();
    }

    /** One loss in place of each that is told. */
    void lossesAt(int loss) {
      for (int day = 0; day < WEEK; day++) {
        losses[day] = town.losses[day] > 0 ? loss : 0;
      }
      stampAll();
    }

    private void stampAll() {
      for (int day = 0; day < WEEK; day++) {
        for (int coins = 0; coins < PURSES; coins++) {
          behindStamps[day * PURSES + coins] = coins - stampsOf(coins, losses[day]);
        }
      }
    }

    int earned(int sort, int day, int coins) {
      return Math.min(MOST_COINS, coins + town.earnings[sort * WEEK + day]);
    }

    int coinsBehind(int coins, int store, int day) {
      int left = behindStamps[day * PURSES + coins] - storeCosts[store];
      return left < 0 ? 0 : left;
    }

    int heldForWeek(int notes) {
      int left = notes;
      for (int day = 0; day < WEEK; day++) {
        left -= stampsOf(left, losses[day]);
      }
      return left;
    }

    /** The fewest notes that a day's night leaves so many of. */
    int neededAhead(int behind, int day) {
      int kept = 1000 - losses[day];
      return kept < 1 ? ENDLESS : (behind * 1000 + kept - 1) / kept;
    }

    /** Moves the price of all that is made by what was sold: whether one changed. */
    boolean movePrices(int[] sold) {
      boolean changed = false;
      for (int at = 0; at < town.things * WEEK; at++) {
        int made = town.makes[at];
        if (made != NONE && sold[at] > made && prices[at] < DEAREST) {
          prices[at]++;
          changed = true;
        } else if (made != NONE && sold[at] < made && prices[at] > 1) {
          prices[at]--;
          changed = true;
        }
      }
      return changed;
    }
  }

  /** What a person of a sort may do on a day. */
  private static final class Terms {
    int thing;
    int units;
    int worth;
    int eatPrice;
    int storePrice;
    int mostBought;
    int mostStored;
    boolean eatsStore;
    boolean notesLose;

    Terms() {
      thing = NONE;
    }

    void load(Market market, int sort, int day) {
      Town town = market.town;
      int at = sort * WEEK + day;
      int stored = town.stored;
      boolean ill = (town.illDays[sort] >> day & 1) != 0;
      thing = town.wantThings[at];
      units = town.wantUnits[at];
      worth = town.wantWorths[at];
      eatPrice = thing == NONE ? 0 : market.prices[thing * WEEK + day];
      storePrice = stored == NONE ? 0 : market.prices[stored * WEEK + day];
      mostBought = ill ? 0 : units;
      mostStored = ill || stored == NONE ? 0 : MOST_STORED_A_DAY;
      eatsStore = thing != NONE && thing == stored;
      notesLose = market.losses[day] > 0;
    }

    int mostFromStore(int store) {
      return !eatsStore ? 0 : store < units ? store : units;
    }

    int priceOf(int eaten, int stored) {
      return eaten * eatPrice + stored * storePrice;
    }

    boolean allow(int coins, int store, int act) {
      int eaten = act & 3;
      int fromStore = act >> 2 & 3;
      int stored = act >> 4;
      return eaten <= mostBought && fromStore <= mostFromStore(store) && eaten + fromStore <= units
          && stored <= mostStored && store - fromStore + stored <= MOST_STORE
          && priceOf(eaten, stored) <= coins;
    }

    /** The act of a way that looks at nothing that follows. */
    int habit(int way, int coins, int store) {
      if (way == FAST) {
        return 0;
      }
      int fromStore = way == STORE_FIRST ? mostFromStore(store) : 0;
      int eaten = Math.min(Math.min(mostBought, units - fromStore), affordable(coins, eatPrice));
      if (way != STORE_FIRST) {
        fromStore = Math.min(units - eaten, mostFromStore(store));
      }
      int stored = 0;
      if (way == SPEND || way == STORE_FIRST && notesLose) {
        int space = MOST_STORE - store + fromStore;
        int bought = affordable(coins - eaten * eatPrice, storePrice);
        stored = Math.min(Math.min(mostStored, space), bought);
      }
      return 16 * stored + 4 * fromStore + eaten;
    }
  }

  /** BEST: forward what a person can come to have, then from the last day back what it is worth. */
  private static final class Planner {
    int bestWorth;
    int leastAct;
    private final Market market;
    private final Terms terms = new Terms();
    // By days ahead and store: the coins ahead of earning that can be had, as bits.
    private final long[] purses = new long[MOST_AHEAD * STORES];
    private final long[] leftovers = new long[STORES];
    // By store and coins: what is best from the day at hand, from the next one on, by patience.
    private int[] now = new int[STORES * PURSES];
    private int[] later = new int[STORES * PURSES];
    // No act can hope for more from the next day on: what can't be better is not looked at.
    private int mostLater;

    Planner(Market market) {
      this.market = market;
    }

    /** The act for n days, 1 or more; coins hold those that are earned on the first one. */
    int search(int sort, int day, int coins, int store, int n) {
      Arrays.fill(purses, 0L);
      purses[store] = 1L << coins;
      for (int ahead = 0; ahead < n - 1; ahead++) {
        int at = (day + ahead) % WEEK;
        terms.load(market, sort, at);
        spread(ahead == 0 ? 0 : market.town.earnings[sort * WEEK + at], ahead);
        sleep(at, ahead + 1);
      }
      Arrays.fill(later, 0);
      mostLater = 0;
      for (int ahead = n - 1; ahead >= 0; ahead--) {
        int at = (day + ahead) % WEEK;
        terms.load(market, sort, at);
        mostLater = weighDay(ahead == 0 ? 0 : market.town.earnings[sort * WEEK + at], sort, at, ahead);
        int[] row = later;
        later = now;
        now = row;
      }
      return leastAct;
    }

    /** What can be left of all that can be had on a day. */
    private void spread(int earned, int ahead) {
      Arrays.fill(leftovers, 0L);
      for (int store = 0; store < STORES; store++) {
        long had = purses[ahead * STORES + store];
        if (had != 0L) {
          spend(withEarned(had, earned), store, terms.mostFromStore(store));
        }
      }
    }

    /** All purses with what is earned; those above 60 coins are full ones. */
    private static long withEarned(long had, int earned) {
      long full = 1L << MOST_COINS;
      long notFull = had << earned & full - 1;
      return had >>> MOST_COINS - earned == 0L ? notFull : notFull | full;
    }

    /** All acts of people with a store, for all their purses at once. */
    private void spend(long coins, int store, int mostFromStore) {
      for (int stored = 0; stored <= terms.mostStored; stored++) {
        for (int fromStore = 0; fromStore <= mostFromStore; fromStore++) {
          int kept = store - fromStore + stored;
          int mostBought = Math.min(terms.mostBought, terms.units - fromStore);
          long left = coins >>> stored * terms.storePrice;
          for (int eaten = 0; kept <= MOST_STORE && eaten <= mostBought; eaten++) {
            leftovers[kept] |= left;
            left >>>= terms.eatPrice;
          }
        }
      }
    }

    /** What can be had on the next day, behind a day's night. */
    private void sleep(int day, int ahead) {
      for (int store = 0; store < STORES; store++) {
        long left = leftovers[store];
        int at = ahead * STORES + market.storesBehind[store];
        for (int coins = 0; coins < PURSES && left >>> coins != 0L; coins++) {
          if ((left >>> coins & 1L) != 0L) {
            purses[at] |= 1L << market.coinsBehind(coins, store, day);
          }
        }
      }
    }

    /** Weighs all that can be had on a day: the most that the day ahead of it can look for. */
    private int weighDay(int earned, int sort, int day, int ahead) {
      int patience = market.town.patience[sort];
      int most = 0;
      for (int store = 0; store < STORES; store++) {
        long had = purses[ahead * STORES + store];
        for (int coins = 0; coins < PURSES && had >>> coins != 0L; coins++) {
          if ((had >>> coins & 1L) != 0L) {
            weigh(Math.min(MOST_COINS, coins + earned), store, day);
            now[store * PURSES + coins] = bestWorth * patience / 1000;
            most = Math.max(most, now[store * PURSES + coins]);
          }
        }
      }
      return most;
    }

    /** Acts are tried by their numbers, so that the first of alike ones is the least. */
    private void weigh(int coins, int store, int day) {
      int mostFromStore = terms.mostFromStore(store);
      bestWorth = NONE;
      for (int stored = 0; stored <= terms.mostStored; stored++) {
        for (int fromStore = 0; fromStore <= mostFromStore; fromStore++) {
          int kept = store - fromStore + stored;
          int mostBought = Math.min(terms.mostBought, terms.units - fromStore);
          int hoped = (fromStore + mostBought) * terms.worth + mostLater;
          if (kept > MOST_STORE || hoped <= bestWorth) {
            continue;
          }
          int left = coins - stored * terms.storePrice;
          for (int eaten = 0; eaten <= mostBought && left >= 0; eaten++) {
            int purse = market.coinsBehind(left, kept, day);
            int follows = later[market.storesBehind[kept] * PURSES + purse];
            int worth = (eaten + fromStore) * terms.worth + follows;
            if (worth > bestWorth) {
              bestWorth = worth;
              leastAct = 16 * stored + 4 * fromStore + eaten;
            }
            left -= terms.eatPrice;
          }
        }
      }
    }
  }

  /** THE RUN, or one to try rates and prices with, with the ways by which sorts go. */
  private static final class Run {
    int days;
    int chest;
    int bought;
    long held;
    final int[] ways = new int[MOST_SORTS];
    final int[] facts = new int[MOST_SORTS * FACTS];

    Run() {
      days = NONE;
    }

    void begin(Town town) {
      days = 0;
      chest = 0;
      bought = 0;
      held = 0L;
      Arrays.fill(facts, 0);
      for (int sort = 0; sort < town.sorts; sort++) {
        facts[sort * FACTS + COINS] = town.firstCoins[sort];
      }
    }

    void become(Run other) {
      days = other.days;
      chest = other.chest;
      bought = other.bought;
      held = other.held;
      System.arraycopy(other.ways, 0, ways, 0, ways.length);
      System.arraycopy(other.facts, 0, facts, 0, facts.length);
    }

    int sum(int what) {
      int sum = 0;
      for (int sort = 0; sort < MOST_SORTS; sort++) {
        sum += facts[sort * FACTS + what];
      }
      return sum;
    }

    int round() {
      if (held == 0L) {
        return NONE;
      }
      // A great town that hardly holds a coin goes round quicker than an int can tell.
      return (int) Math.min(MOST_INT, 1000L * sum(PAID) / held);
    }
  }

  /** The days of a run. */
  private static final class Walk {
    final Terms terms = new Terms();
    // Units that were bought, by things and days, since they were last set to 0.
    final int[] sold = new int[MOST_THINGS * WEEK];
    private final Market market;
    private final Planner planner;
    private final int[] left = new int[MOST_THINGS];

    Walk(Market market, Planner planner) {
      this.market = market;
      this.planner = planner;
    }

    void passDay(Run run, boolean bounded) {
      int day = Math.floorMod(run.days, WEEK);
      if (day == 0) {
        openChest(run);
      }
      for (int thing = 0; thing < MOST_THINGS; thing++) {
        int made = market.town.makes[thing * WEEK + day];
        left[thing] = bounded && made != NONE ? made : ENDLESS;
      }
      for (int sort = 0; sort < market.town.sorts; sort++) {
        serve(run, sort, day);
      }
      run.days++;
    }

    private void openChest(Run run) {
      int sort = market.town.chest;
      if (sort == NONE || market.town.people[sort] < 1) {
        return;
      }
      int people = market.town.people[sort];
      int each = run.chest / people;
      int at = sort * FACTS;
      run.chest -= each * people;
      run.facts[at + GOT] += each * people;
      run.facts[at + COINS] = Math.min(MOST_COINS, run.facts[at + COINS] + each);
    }

    private void serve(Run run, int sort, int day) {
      int at = sort * FACTS;
      int people = market.town.people[sort];
      int store = run.facts[at + STORED];
      int coins = market.earned(sort, day, run.facts[at + COINS]);
      int way = run.ways[sort];
      terms.load(market, sort, day);
      int act = way == BEST
          ? planner.search(sort, day, coins, store, WEEK) : terms.habit(way, coins, store);
      int eaten = buy(terms.thing, act & 3, people, day);
      int fromStore = act >> 2 & 3;
      int stored = buy(market.town.stored, act >> 4, people, day);
      int price = terms.priceOf(eaten, stored);
      run.bought += people * (eaten + stored);
      run.held += people * (coins - price);
      run.facts[at + PAID] += people * price;
      run.facts[at + EATEN] += people * terms.worth * (eaten + fromStore);
      sleep(run, sort, day, coins - price, store - fromStore + stored);
    }

    /** How many of so many units each person can get of what is left. */
    private int buy(int thing, int units, int people, int day) {
      if (thing == NONE || people < 1) {
        return 0;
      }
      int got = Math.min(units, left[thing] / people);
      left[thing] -= got * people;
      sold[thing * WEEK + day] += got * people;
      return got;
    }

    private void sleep(Run run, int sort, int day, int coins, int store) {
      int at = sort * FACTS;
      int people = market.town.people[sort];
      int stamps = people * stampsOf(coins, market.losses[day]);
      int kept = market.storesBehind[store];
      run.chest += stamps;
      run.facts[at + STAMPS] += stamps;
      run.facts[at + LOST] += people * (store - kept);
      run.facts[at + COINS] = market.coinsBehind(coins, store, day);
      run.facts[at + STORED] = kept;
    }
  }

  /** TWO MONEYS, from the last day back. */
  private static final class TwoMoneys {
    private int noteTaken;
    private int otherTaken;
    private int lost;
    // By notes and coins of the other money, ten of each: what follows the day at hand.
    private final int[] follows = new int[100];

    TwoMoneys() {
      lost = 0;
    }

    void takenAt(int p, int q) {
      noteTaken = p;
      otherTaken = q;
    }

    /** Makes ready what follows the first of n days. */
    void lookBack(int a, int g, int n, int r) {
      Arrays.fill(follows, 0);
      for (int day = 1; day < n; day++) {
        lost = losesOn(day, r);
        // From above, in one row: a cell asks only for cells with no more of either.
        for (int notes = a; notes >= 0; notes--) {
          for (int coins = g; coins >= 0; coins--) {
            int most = Math.max(offeringNote(notes, coins), offeringOther(notes, coins));
            follows[notes * 10 + coins] = Math.max(0, most);
          }
        }
      }
      lost = losesOn(n, r);
    }

    /** NONE without a note. */
    int offeringNote(int a, int g) {
      return a < 1 ? NONE : mean(noteTaken, behind(a - 1, g), behind(a, g));
    }

    /** NONE without a coin. */
    int offeringOther(int a, int g) {
      return g < 1 ? NONE : mean(otherTaken, behind(a, g - 1), behind(a, g));
    }

    private int behind(int a, int g) {
      return follows[Math.max(0, a - lost) * 10 + g];
    }

    private static int mean(int taken, int ifTaken, int ifNot) {
      return (taken * (1000 + ifTaken) + (100 - taken) * ifNot) / 100;
    }

    private static int losesOn(int day, int r) {
      return r > 0 && day % r == 0 ? 1 : 0;
    }
  }

  /** MEETING, with what a thing is worth to each sort and what it costs it. */
  private static final class Meeting {
    long with;
    long without;
    final int[] draft = new int[2 * MOST_SORTS];
    // A worth and a cost for each sort in turn.
    private final int[] rows = new int[2 * MOST_SORTS];
    private int sorts;
    private int takers;
    private long asked;
    private long met;

    Meeting() {
      sorts = 0;
    }

    void forget() {
      Arrays.fill(rows, 0);
    }

    void takeDraft() {
      System.arraycopy(draft, 0, rows, 0, rows.length);
    }

    void start(Town town, int set, int m) {
      int taking = 0;
      int everyone = 0;
      for (int sort = 0; sort < town.sorts; sort++) {
        everyone += town.people[sort];
        taking += (set >> sort & 1) * town.people[sort];
      }
      sorts = town.sorts;
      takers = set;
      asked = 10 * m;
      met = everyone < 1 ? 0 : asked * taking / everyone;
    }

    void goOn(int sort, int r, int t) {
      long worth = 1000L * rows[2 * sort];
      long cost = 1000L * rows[2 * sort + 1];
      boolean takes = (takers >> sort & 1) != 0;
      with = 0L;
      without = 0L;
      for (int day = 0; day < t; day++) {
        long offered = (met * (worth + without) + (1000 - met) * with) / 1000;
        long held = Math.max(with, offered);
        if (takes) {
          without = (asked * (with - cost) + (1000 - asked) * without) / 1000;
        }
        with = held - held * r / 1000;
      }
    }

    boolean isAtRest(int r, int t) {
      for (int sort = 0; sort < sorts; sort++) {
        goOn(sort, r, t);
        boolean gains = with - without >= 1000L * rows[2 * sort + 1];
        if (gains != ((takers >> sort & 1) != 0)) {
          return false;
        }
      }
      return true;
    }
  }
}
