/** Terms IV and promises 27 to 33: each sentence that names a bound of moneys, lending, meeting and books. */
public final class MoneyBoundsTest {
  private static final int LEAST = Integer.MIN_VALUE;
  private static final int MOST = Integer.MAX_VALUE;
  private static final Check check = new Check();

  private static int two(RotMoney x, int[] a) {
    return x.two(a[0], a[1], a[2], a[3], a[4], a[5], a[6]);
  }

  private static void twoBounds() {
    check.says("27: RANGE");
    RotMoney x = new RotMoney();
    int[] fine = {1, 1, 50, 50, 1, 1, 0};
    int[][] bounds = {{0, 9}, {0, 9}, {0, 100}, {0, 100}, {0, 20}, {1, 20}, {0, 1}};
    for (int i = 0; i < 7; i++) {
      int[] no = {bounds[i][0] - 1, bounds[i][1] + 1, LEAST, MOST};
      for (int n : no) {
        int[] args = fine.clone();
        args[i] = n;
        check.due("number " + i + " being " + n, two(x, args), RotMoney.RANGE);
        // Without DAYS, without either money it is no less wrong.
        args[4] = i == 4 ? n : 0;
        check.due("number " + i + " being " + n + ", no DAYS", two(x, args), RotMoney.RANGE);
      }
      for (int n : bounds[i]) {
        int[] args = fine.clone();
        args[i] = n;
        check.must(two(x, args) >= 0, "number " + i + " being " + n + " can be");
      }
    }
    check.says("IV: 0 without DAYS, or either; 27: OFFERS (NONE: neither is had, or no DAYS)");
    check.due("no DAYS", x.two(9, 9, 100, 100, 0, 20, 0), 0);
    check.due("no DAYS", x.two(9, 9, 100, 100, 0, 20, 1), RotMoney.NONE);
    check.due("neither", x.two(0, 0, 100, 100, 20, 20, 0), 0);
    check.due("neither", x.two(0, 0, 100, 100, 20, 20, 1), RotMoney.NONE);
    check.due("one DAY, one note", x.two(1, 0, 100, 0, 1, 20, 0), 1000);
    check.due("one DAY, one coin", x.two(0, 1, 0, 100, 1, 20, 0), 1000);
    check.due("all at their greatest", x.two(9, 9, 100, 100, 20, 20, 0), 17000);
    check.due("no note lost", x.two(9, 9, 100, 100, 19, 20, 0), 18000);
    check.due("taken in 0 of a hundred", x.two(9, 9, 0, 0, 20, 1, 0), 0);
    check.due("and yet the note", x.two(9, 9, 0, 0, 20, 1, 1), 0);
  }

  private static void twoLoses() {
    check.says("IV: each r-th DAY still to go (n a multiple of r, 1 .. 20) one note is lost behind the try, if "
        + "there is one");
    RotMoney x = new RotMoney();
    check.due("r 1: behind each try", x.two(4, 0, 100, 0, 4, 1, 0), 2000);
    check.due("r 2: behind the first and the third", x.two(4, 0, 100, 0, 4, 2, 0), 3000);
    check.due("r 3: behind the second", x.two(4, 0, 100, 0, 4, 3, 0), 3000);
    check.due("r 4: behind the first", x.two(4, 0, 100, 0, 4, 4, 0), 3000);
    check.due("r 5: none", x.two(4, 0, 100, 0, 4, 5, 0), 4000);
    check.due("r 20 of 19", x.two(9, 0, 100, 0, 19, 20, 0), 9000);
    check.due("r 20 of 20: one is lost", x.two(9, 0, 100, 0, 20, 20, 0), 8000);
    check.due("the last note is offered, none is left to lose", x.two(1, 1, 100, 100, 2, 2, 0), 2000);
    check.due("the other money keeps", x.two(0, 9, 100, 100, 9, 1, 0), 9000);
    // One DAY, r 1: what is lost comes behind the try.
    check.due("behind the try", x.two(1, 0, 70, 0, 1, 1, 0), 700);
    check.due("not taken, lost", x.two(1, 0, 70, 0, 2, 2, 0), 700);
    check.due("not taken, kept: 700 and 30 of 700", x.two(1, 0, 70, 0, 2, 3, 0), 910);
    check.says("IV: over 100 (cut)");
    check.due("330 and 67 of 330: 551.1", x.two(1, 0, 33, 0, 2, 20, 0), 551);
    check.due("1: 10, then 19.9", x.two(1, 0, 1, 0, 2, 20, 0), 19);
    check.due("the other likewise", x.two(0, 1, 0, 33, 2, 20, 0), 551);
    check.says("IV: OFFERS: 0 the note, 1 the other: the note of alike ones");
    check.due("alike", x.two(1, 1, 50, 50, 1, 20, 1), 0);
    check.due("the other by one", x.two(1, 1, 50, 51, 1, 20, 1), 1);
    check.due("the note by one", x.two(1, 1, 51, 50, 1, 20, 1), 0);
    check.due("the note, ere it is lost", x.two(1, 1, 40, 60, 2, 2, 1), 0);
    check.says("IV: (Offering what one has not is not looked at.)");
    check.due("no note", x.two(0, 1, 100, 1, 1, 20, 1), 1);
    check.due("no note", x.two(0, 1, 100, 0, 1, 20, 1), 1);
    check.due("no note", x.two(0, 1, 100, 1, 1, 20, 0), 10);
    check.due("no coin", x.two(1, 0, 1, 100, 1, 20, 1), 0);
    check.due("no coin", x.two(1, 0, 1, 100, 1, 20, 0), 10);
  }

  private static void lend() {
    check.says("28: c (0 .. 999) becomes in w weeks, y 0 .. 1000 (of no matter for HELD, but within); RANGE");
    RotMoney x = check.town("rot 0 100;rot 6 10;");
    int[][] bounds = {{0, 999}, {0, 52}, {0, 1000}, {0, 1}};
    for (int i = 0; i < 4; i++) {
      int[] no = {bounds[i][0] - 1, bounds[i][1] + 1, LEAST, MOST};
      for (int n : no) {
        for (int what = 0; what < 2; what++) {
          int[] args = {1, 1, 1, what};
          args[i] = n;
          check.due("number " + i + " being " + n, x.lend(args[0], args[1], args[2], args[3]), RotMoney.RANGE);
        }
      }
    }
    check.says("IV: LENT: w weeks (0 .. 52): c times (1000 less y) over 1000 (cut) week by week");
    int[][] lent = {{999, 0, 1000, 999}, {999, 1, 1000, 0}, {999, 52, 0, 999}, {0, 52, 1, 0}, {999, 52, 1, 947},
        {999, 1, 1, 998}, {1, 1, 1, 0}, {1, 1, 0, 1}, {2, 1, 500, 1}, {3, 1, 500, 1}, {999, 2, 500, 249}, {100, 2, 100, 81},
        {99, 2, 100, 80}};
    for (int[] row : lent) {
      check.due("lend " + row[0] + ", " + row[1] + ", " + row[2], x.lend(row[0], row[1], row[2], 0), row[3]);
    }
    check.says("IV: HELD: c notes by the NIGHTS of DAYS 0 .. 6, w weeks: each NIGHT less STAMPS");
    int[][] held = {{999, 0, 999}, {0, 52, 0}, {1, 1, 0}, {2, 1, 0}, {3, 1, 1}, {99, 1, 88}, {99, 2, 78},
        {100, 1, 89}, {101, 1, 89}, {999, 1, 890}, {999, 52, 0}};
    for (int[] row : held) {
      check.due("held " + row[0] + ", " + row[1], x.lend(row[0], row[1], 0, 1), row[2]);
      check.due("whatever y is", x.lend(row[0], row[1], 1000, 1), row[2]);
    }
    check.due("nothing lost", new RotMoney().lend(999, 52, 1000, 1), 999);
    check.due("the greatest loss", check.town("rot 3 900;").lend(999, 1, 0, 1), 99);
    check.due("each NIGHT", check.town("rot 0 1;rot 1 1;rot 2 1;rot 3 1;rot 4 1;rot 5 1;rot 6 1;").lend(999, 1, 0, 1),
        992);
  }

  private static void early() {
    check.says("29: EARLY of c (0 .. 999); RANGE");
    RotMoney x = check.town("rot 0 100;rot 6 10;");
    int[][] bounds = {{0, 999}, {0, 60}, {0, 6}};
    for (int i = 0; i < 3; i++) {
      int[] no = {bounds[i][0] - 1, bounds[i][1] + 1, LEAST, MOST};
      for (int n : no) {
        int[] args = {1, 1, 1};
        args[i] = n;
        check.due("number " + i + " being " + n, x.early(args[0], args[1], args[2]), RotMoney.RANGE);
      }
    }
    check.says("IV: due in d DAYS (0 .. 60): d NIGHTS, that DAY's the first");
    int[][] rows = {{90, 0, 0, 90}, {90, 1, 0, 100}, {90, 1, 1, 90}, {99, 5, 1, 99}, {99, 6, 1, 100}, {99, 1, 6, 100},
        {90, 2, 6, 102}, {90, 7, 0, 102}, {90, 6, 0, 100}, {0, 60, 0, 0}, {0, 0, 0, 0}, {999, 0, 6, 999}, {1, 1, 0, 2},
        {2, 1, 0, 3}, {8, 1, 0, 9}, {9, 1, 0, 10}, {10, 1, 0, 12}};
    for (int[] row : rows) {
      check.due("early " + row[0] + ", " + row[1] + ", " + row[2], x.early(row[0], row[1], row[2]), row[3]);
    }
    RotMoney one = check.town("rot 0 1;");
    check.due("the one stamp of two notes", one.early(1, 1, 0), 2);
    check.due("the one stamp of 999", one.early(998, 1, 0), 999);
    check.due("two stamps of two NIGHTS", one.early(1, 8, 0), 3);
    check.says("29: NONE: 999 don't do");
    check.due("899 is just left of 999", x.early(899, 1, 0), 999);
    check.due("900 is not", x.early(900, 1, 0), RotMoney.NONE);
    check.due("999 that lose one", x.early(999, 1, 6), RotMoney.NONE);
    check.due("989 is just left of 999", x.early(989, 1, 6), 999);
    check.due("990 is not", x.early(990, 1, 6), RotMoney.NONE);
    RotMoney nine = check.town("rot 0 900;");
    check.due("99 of 999", nine.early(99, 1, 0), 990);
    check.due("100 of 1000", nine.early(100, 1, 0), RotMoney.NONE);
    check.due("one, eight times", nine.early(1, 60, 1), RotMoney.NONE);
    check.due("one, twice: of 100 ten, of ten one", nine.early(1, 8, 0), 100);
    check.due("one, once", nine.early(1, 7, 0), 10);
    check.says("IV: the fewest notes that, held till then, are c at least");
    for (int c = 0; c <= 999; c += 37) {
      for (int d = 0; d <= 60; d += 12) {
        check.due("early " + c + ", " + d + ", 4", x.early(c, d, 4), fewest(c, d, 4));
      }
    }
  }

  /** By trying all, with rot 0 100 and rot 6 10. */
  private static int fewest(int c, int d, int day) {
    int[] losses = {100, 0, 0, 0, 0, 0, 10};
    for (int notes = 0; notes <= 999; notes++) {
      int left = notes;
      for (int i = 0; i < d; i++) {
        left -= (left * losses[(day + i) % 7] + 999) / 1000;
      }
      if (left >= c) {
        return notes;
      }
    }
    return RotMoney.NONE;
  }

  private static void values() {
    check.says("30: for each SORT {N N \";\"} (0 .. 99 each): 1; NONE: it is no such row");
    String[] towns = {"", "sort a 1 1 1;", "sort a 1 1 1;sort b 1 1 1;", "sort a 1 1 1;sort b 1 1 1;sort c 1 1 1;",
        "sort a 1 1 1;sort b 1 1 1;sort c 1 1 1;sort d 1 1 1;"};
    for (int sorts = 0; sorts <= 4; sorts++) {
      for (int rows = 0; rows <= 5; rows++) {
        RotMoney x = check.town(towns[sorts]);
        int due = rows == sorts ? 1 : RotMoney.NONE;
        check.due(rows + " rows for " + sorts, Texts.values(x, "99 0;".repeat(rows)), due);
        for (int s = 0; s < sorts; s++) {
          check.due("worth to SORT " + s, x.meet(s, 1 << s, 100, 0, 1, 0), due == 1 ? 1000 / sorts * 99 : 0);
        }
      }
    }
    RotMoney x = check.town("sort a 1 1 1;sort b 1 1 1;");
    check.due("at first 0", x.meet(0, 3, 100, 0, 1, 0), 0);
    check.due("set", Texts.values(x, "7 1;5 2;"), 1);
    String[] no = {"", "7 1;", "7 1;5 2", "7 1;5 2;6 3;", "7 1;5 2;;", "7 1;5 2;6", "7 1;5 2;x", "7 1;5 2;?", "100 1;5 2;",
        "7 100;5 2;", "7 1;100 2;", "7 1;5 100;", "7 1;5 9999;", "7;5 2;", "7 1 1;5 2;", "x 1;5 2;", "7 x;5 2;",
        "7 1,5 2;", ";7 1;5 2;", "7 1;;5 2;", "00007 1;5 2;", "-7 1;5 2;", "7 1;5\t2;", "a 7 1;b 5 2;"};
    for (String row : no) {
      check.due("values() of " + row, Texts.values(x, row), RotMoney.NONE);
      check.due("the worths stay", x.meet(0, 3, 100, 0, 1, 0) + x.meet(1, 3, 100, 0, 1, 0), 12000);
      check.due("the costs stay", x.meet(0, 3, 100, 0, 1, 1) + x.meet(1, 3, 100, 0, 1, 1), -3000);
      check.due("the FAULT is no one's", x.fault(0), 0);
    }
    String[] fine = {"0 99;99 0;", "0000 0099;0099 0;", "\n0 99 ;\n 99\n0;\n ", "0 99;99 0;" + " ".repeat(890)};
    for (String row : fine) {
      check.due("values() of " + row, Texts.values(x, row), 1);
      check.due("worth 0", x.meet(0, 3, 100, 0, 1, 0), 0);
      check.due("cost 99", x.meet(0, 3, 100, 0, 1, 1), -99000);
      check.due("worth 99", x.meet(1, 3, 100, 0, 1, 0), 99000);
      check.due("cost 0", x.meet(1, 3, 100, 0, 1, 1), 0);
    }
    check.says("30: they are so from now on");
    x.pass(9);
    x.anew();
    x.rest(1);
    check.due("they stay", x.meet(1, 3, 100, 0, 1, 0), 99000);
  }

  private static void meetBounds() {
    check.says("31: a set that takes notes (bits), m 0 .. 100, r 0 .. 900, t 0 .. 40; RANGE (-1000000)");
    for (int sorts = 1; sorts <= 4; sorts++) {
      RotMoney x = check.town("sort a 1 1 1;sort b 1 1 1;sort c 1 1 1;sort d 1 1 1;".substring(0, 13 * sorts));
      Texts.values(x, "9 9;".repeat(sorts));
      int[][] bounds = {{0, sorts - 1}, {0, (1 << sorts) - 1}, {0, 100}, {0, 900}, {0, 40}, {0, 1}};
      for (int i = 0; i < 6; i++) {
        int[] no = {bounds[i][0] - 1, bounds[i][1] + 1, LEAST, MOST};
        for (int n : no) {
          int[] a = {0, 0, 1, 1, 1, 0};
          a[i] = n;
          check.due("of " + sorts + ", number " + i + " being " + n, x.meet(a[0], a[1], a[2], a[3], a[4], a[5]),
              -1000000);
        }
        for (int n : bounds[i]) {
          int[] a = {0, 0, 1, 1, 1, 0};
          a[i] = n;
          check.must(x.meet(a[0], a[1], a[2], a[3], a[4], a[5]) != -1000000, "number " + i + " being " + n + " can be");
        }
      }
    }
    RotMoney none = new RotMoney();
    check.due("without SORTS", none.meet(0, 0, 0, 0, 0, 0), -1000000);
    check.says("31: no answer is RANGE where numbers can be");
    RotMoney x = check.town("sort a 99 1 1;");
    Texts.values(x, "0 99;");
    check.due("the least of all", x.meet(0, 1, 100, 900, 40, 1), -99000);
    check.due("its WITH", x.meet(0, 1, 100, 900, 40, 0), 0);
    Texts.values(x, "99 0;");
    // Each DAY a note is paid for a thing, each second one it is got again.
    check.due("the greatest of all", x.meet(0, 1, 100, 0, 40, 0), 40 * 99000 / 2);
    check.due("and WITHOUT", x.meet(0, 1, 100, 0, 40, 1), 20 * 99000);
  }

  private static void meetDays() {
    check.says("IV: 0 at t 0");
    RotMoney x = check.town("sort a 2 1 1;sort b 1 1 1;");
    Texts.values(x, "9 1;5 2;");
    for (int set = 0; set < 4; set++) {
      check.due("WITH", x.meet(0, set, 100, 900, 0, 0), 0);
      check.due("WITHOUT", x.meet(0, set, 100, 900, 0, 1), 0);
    }
    check.says("IV: MET: 10 times m times those over all, cut");
    check.due("2 of 3 of 500: 333", x.meet(0, 1, 50, 0, 1, 0), 333 * 9);
    check.due("1 of 3 of 1000: 333", x.meet(0, 2, 100, 0, 1, 0), 333 * 9);
    check.due("all of 10: 10", x.meet(0, 3, 1, 0, 1, 0), 90);
    check.due("none of a hundred", x.meet(0, 3, 0, 0, 40, 0), 0);
    check.due("nobody takes", x.meet(0, 0, 100, 0, 40, 0), 0);
    check.says("IV: else F less F times r over 1000 (cut)");
    check.due("r 0", x.meet(0, 1, 50, 0, 1, 0), 2997);
    check.due("r 1: 2.997", x.meet(0, 1, 50, 1, 1, 0), 2995);
    check.due("r 900: 2697.3", x.meet(0, 1, 50, 900, 1, 0), 300);
    check.says("IV: F being the greater of WITH (t - 1) and ..");
    // Its cost is so great that whoever comes to be without a note has lost: he keeps it.
    Texts.values(x, "1 99;5 2;");
    int first = x.meet(0, 1, 100, 0, 1, 0);
    check.due("666 of 1000", first, 666);
    check.due("he keeps it", x.meet(0, 1, 100, 0, 2, 0), 666);
    check.says("IV: if the SORT takes notes, .. over 1000 (cut towards 0), else WITHOUT (t - 1)");
    check.due("takes: less its cost", x.meet(0, 1, 100, 0, 1, 1), -99000);
    check.due("takes none", x.meet(0, 2, 100, 0, 40, 1), 0);
    Texts.values(x, "9 1;5 2;");
    // t 1: WITH 54 (MET 6), WITHOUT -10; t 2: (10 (54 - 1000) - 990 10) over 1000: -19.36.
    check.due("towards 0", x.meet(0, 1, 1, 0, 2, 1), -19);
    check.says("IV: DAYS to go t (0 .. 40)");
    for (int t = 0; t <= 40; t++) {
      check.due("WITH " + t, x.meet(1, 3, 37, 13, t, 0), byHand(5, 2, 370, t)[0]);
      check.due("WITHOUT " + t, x.meet(1, 3, 37, 13, t, 1), byHand(5, 2, 370, t)[1]);
    }
  }

  /** WITH and WITHOUT where all take notes and 13 of a thousand rot: MET is as many as are asked. */
  private static int[] byHand(int worth, int cost, int met, int t) {
    int[] row = {0, 0};
    for (int i = 1; i <= t; i++) {
      int f = Math.max(row[0], (met * (1000 * worth + row[1]) + (1000 - met) * row[0]) / 1000);
      row = new int[] {f - f * 13 / 1000, (met * (row[0] - 1000 * cost) + (1000 - met) * row[1]) / 1000};
    }
    return row;
  }

  private static void rests() {
    check.says("32: Which sets are AT REST for t, as bits by their numbers; RANGE");
    RotMoney x = check.town("sort a 1 1 1;sort b 1 1 1;");
    int[][] bounds = {{0, 100}, {0, 900}, {0, 40}};
    for (int i = 0; i < 3; i++) {
      int[] no = {bounds[i][0] - 1, bounds[i][1] + 1, LEAST, MOST};
      for (int n : no) {
        int[] a = {1, 1, 1};
        a[i] = n;
        check.due("number " + i + " being " + n, x.rests(a[0], a[1], a[2]), RotMoney.RANGE);
      }
      for (int n : bounds[i]) {
        int[] a = {1, 1, 1};
        a[i] = n;
        check.must(x.rests(a[0], a[1], a[2]) >= 0, "number " + i + " being " + n + " can be");
      }
    }
    check.due("without SORTS the empty set", new RotMoney().rests(100, 900, 40), 1);
    check.says("IV: for each SORT of it WITH (t) less WITHOUT (t) is at least 1000 times its cost");
    RotMoney one = check.town("sort a 1 1 1;");
    check.due("cost 0: 0 is at least 0", one.rests(0, 0, 0), 2);
    Texts.values(one, "0 1;");
    check.due("just 1000", one.rests(100, 0, 1), 3);
    check.due("990", one.rests(99, 0, 1), 1);
    check.due("no DAYS: 0 is less", one.rests(100, 0, 0), 1);
    check.says("IV: and for each other one it is less");
    // a has no cost: without taking it is no less than it, so that only sets with a rest.
    Texts.values(x, "0 0;0 99;");
    check.due("with a", x.rests(0, 0, 5), 1 << 1);
    Texts.values(x, "0 99;0 0;");
    check.due("with b", x.rests(0, 0, 5), 1 << 2);
    Texts.values(x, "0 0;0 0;");
    check.due("with both", x.rests(0, 0, 5), 1 << 3);
    Texts.values(x, "0 99;0 99;");
    check.due("with none", x.rests(0, 0, 5), 1);
    RotMoney four = check.town("sort a 1 1 1;sort b 1 1 1;sort c 1 1 1;sort d 1 1 1;");
    check.due("all four: set 15", four.rests(0, 0, 5), 1 << 15);
    Texts.values(four, "0 99;0 99;0 99;0 0;");
    check.due("the fourth alone: set 8", four.rests(0, 0, 5), 1 << 8);
    Texts.values(four, "0 1;0 1;0 1;0 1;");
    // At t 1 and m 100 WITH less WITHOUT is just the cost for who takes, nothing for who doesn't: all sets rest.
    check.due("all sixteen", four.rests(100, 0, 1), 65535);
  }

  private static void bookTrades() {
    check.says("33: the first TRADE (from 0) by which he LOST; FULL (-3): none did");
    RotMoney x = check.town("sort a 1 1 1;sort b 1 1 1;thing t 1 1;thing u 1 1;want a t 0 2 50;want a u 6 3 99;"
        + "want b t 0 1 1;want b t 1 1 0;");
    String fine = "a t 0 1 50;";
    check.due("an empty book", Texts.book(x, ""), RotMoney.FULL);
    check.due("blanks", Texts.book(x, " \n"), RotMoney.FULL);
    check.due("none lost", Texts.book(x, fine), RotMoney.FULL);
    check.due("the first", Texts.book(x, "a t 0 1 51;" + fine), 0);
    check.due("the second", Texts.book(x, fine + "a t 0 1 51;a t 0 1 52;"), 1);
    check.due("the last of many", Texts.book(x, "a t0 1 1;".repeat(99) + "b u0 1 1;"), 99);
    check.due("none of a hundred", Texts.book(x, "a t0 1 1;".repeat(100)), RotMoney.FULL);
    check.says("IV: He LOST by it, if he doesn't want that THING that DAY, or fewer, or WORTH of one is less than "
        + "the price");
    String[] lost = {"a u 0 1 1;", "a t 1 1 1;", "a t 6 1 1;", "b u 6 1 1;", "a t 0 3 1;", "b t 0 2 1;", "a t 0 1 51;",
        "a t 0 2 51;", "b t 0 1 2;", "b t 1 1 1;", "a t 0 1 99;"};
    for (String trade : lost) {
      check.due("book() of " + trade, Texts.book(x, trade), 0);
      check.due("without a FAULT", x.fault(0), 0);
    }
    String[] won = {"a t 0 1 1;", "a t 0 2 1;", "a t 0 2 50;", "a u 6 3 99;", "a u 6 1 1;", "b t 0 1 1;"};
    for (String trade : won) {
      check.due("book() of " + trade, Texts.book(x, trade), RotMoney.FULL);
    }
    check.says("IV: but not, if notes lose in that NIGHT and WORTH times 1000 is at least the price times (1000 less "
        + "what they lose), he wanting so many");
    // 50000 against 99 times 505.05: at 494 too much, at 495 just enough.
    RotMoney y = check.town("rot 0 494;rot 1 495;rot 2 500;rot 3 900;rot 4 0;sort a 1 1 1;thing t 1 1;thing u 1 1;"
        + "want a t 0 2 50;want a t 1 2 50;want a t 2 2 10;want a t 3 2 9;want a t 4 2 50;want a t 5 2 50;want a t 6 1 0;"
        + "rot 6 900;");
    int[][] rows = {{0, 1, 98, -3}, {0, 1, 99, 0}, {1, 1, 99, -3}, {1, 2, 99, -3}, {1, 3, 99, 0}, {1, 3, 1, 0},
        {2, 1, 20, -3}, {2, 1, 21, 0}, {3, 2, 90, -3}, {3, 2, 91, 0}, {4, 1, 50, -3}, {4, 1, 51, 0}, {5, 1, 50, -3},
        {5, 1, 51, 0}, {6, 1, 1, 0}};
    for (int[] row : rows) {
      String trade = "a t " + row[0] + " " + row[1] + " " + row[2] + ";";
      check.due("book() of " + trade, Texts.book(y, trade), row[3]);
    }
    check.due("another THING", Texts.book(y, "a u 1 1 1;"), 0);
    // 98000 against 99 times 990 and 99 times 989.
    RotMoney z = check.town("rot 0 10;rot 1 11;sort a 1 1 1;thing t 1 1;want a t 0 1 98;want a t 1 1 98;");
    check.due("98010", Texts.book(z, "a t 0 1 99;"), 0);
    check.due("97911", Texts.book(z, "a t 1 1 99;"), RotMoney.FULL);
  }

  private static void bookFaults() {
    check.says("33: NONE: with a FAULT");
    RotMoney x = check.town("rot 0 9;sort a 1 1 1;sort b 1 1 1;thing t 1 1;thing u 1 1;want a t 0 3 50;");
    String[] bounds = {"a t # 1 1;", "a t 0 # 1;", "a t 0 1 #;"};
    int[][] numbers = {{0, 6}, {1, 3}, {1, 99}};
    for (int i = 0; i < bounds.length; i++) {
      int place = bounds[i].indexOf('#');
      for (int n : numbers[i]) {
        Texts.book(x, bounds[i].replace("#", "" + n));
        check.due(bounds[i] + " of " + n, x.fault(0), 0);
        check.due("no place", x.fault(1), RotMoney.NONE);
      }
      int[] no = {numbers[i][0] - 1, numbers[i][1] + 1, 9999};
      for (int n : no) {
        if (n >= 0) {
          fault(x, bounds[i].replace("#", "" + n), 2, place);
        }
      }
      fault(x, bounds[i].replace("#", "-1"), 1, place);
      fault(x, bounds[i].replace("#", "00001"), 1, place);
    }
    bookTokens();
    fault(x, "t t 0 1 1;", 5, 0);
    fault(x, "a a 0 1 1;", 5, 2);
    fault(x, "x x 9 9 999;", 5, 0);
    fault(x, "a t 7 0 0;", 2, 4);
    check.says("33: NONE: with a FAULT, though one LOST by an earlier TRADE");
    fault(x, "a t 0 1 99;a t 0 1 0;", 2, 19);
    fault(x, "a t 0 1 99;;", 1, 11);
    fault(x, "a t 0 1 99; a t 0 1 1", 1, 21);
    fault(x, " ".repeat(891) + "a t 0 1 1", 1, 900);
    check.due("a full tape", Texts.book(x, " ".repeat(889) + "a t 0 1 50;"), RotMoney.FULL);
    check.due("a full tape", Texts.book(x, " ".repeat(889) + "a t 0 1 51;"), 0);
    check.says("33: a FAULT of a book leaves the TOWN as it is");
    check.due("clauses", x.count(0), 6);
    check.due("DAYS", x.pass(3), 3);
    Texts.book(x, "?");
    check.due("DAYS", x.all(1), 3);
  }

  private static void bookTokens() {
    check.says("1 SYNTAX: a TOKEN with which no text goes on; 5 UNKNOWN: a W that is none");
    String[] tokens = {"a", "t", "0", "1", "1", ";"};
    String[] others = {"x", "1", ";", ".", "", "?", "aaaaaaaaa", "00001"};
    String ahead = "a t 0 1 1; ";
    for (int at = 0; at < tokens.length; at++) {
      RotMoney x = check.town("sort a 1 1 1;thing t 1 1;");
      for (String other : others) {
        boolean named = other.equals("x") && at < 2;
        boolean fits = named || other.equals("1") && at > 1 && at < 5 || other.equals(";") && at == 5;
        if (named) {
          fault(x, ahead + other, 5, ahead.length());
        } else if (!fits && !(at == 0 && other.isEmpty())) {
          fault(x, ahead + other, 1, ahead.length());
        }
      }
      ahead += tokens[at] + " ";
    }
  }

  private static void fault(RotMoney x, String text, int kind, int place) {
    check.due("book() of " + text, Texts.book(x, text), RotMoney.NONE);
    check.due("kind in " + text, x.fault(0), kind);
    check.due("place in " + text, x.fault(1), place);
    check.due("bytes", x.count(1), 0);
  }

  public static void main(String[] args) {
    twoBounds();
    twoLoses();
    lend();
    early();
    values();
    meetBounds();
    meetDays();
    rests();
    bookTrades();
    bookFaults();
    check.finish("MoneyBoundsTest");
  }
}
