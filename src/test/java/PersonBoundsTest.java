/** Terms II and promises 7 to 15: each sentence that names a bound of what one person has and does. */
public final class PersonBoundsTest {
  private static final int LEAST = Integer.MIN_VALUE;
  private static final int MOST = Integer.MAX_VALUE;
  private static final String FOUR = "sort a 1 0 0;sort b 1 0 0;sort c 1 0 0;sort d 1 0 0;";
  private static final String THREE = "thing t 0 0;thing u 0 0;thing v 0 0;";
  private static final int[] NO_DAYS = {-1, 7, LEAST, MOST};
  private static final int[] NO_SORTS = {-1, 4, LEAST, MOST};
  private static final int[] NO_THINGS = {-1, 3, LEAST, MOST};
  private static final int[] NO_COINS = {-1, 61, LEAST, MOST};
  private static final int[] NO_STORES = {-1, 6, LEAST, MOST};
  private static final Check check = new Check();

  private static String act(int e, int f, int s) {
    return "act of e " + e + ", f " + f + ", s " + s;
  }

  private static void earns() {
    check.says("7: What a SORT earns on a DAY (0); RANGE");
    RotMoney x = check.town(FOUR + "earn a 0 1;earn a 6 20;earn d 0 20;earn d 6 1;");
    check.due("SORT 0, DAY 0", x.earns(0, 0), 1);
    check.due("SORT 0, DAY 6", x.earns(0, 6), 20);
    check.due("SORT 3, DAY 0", x.earns(3, 0), 20);
    check.due("SORT 3, DAY 6", x.earns(3, 6), 1);
    check.due("untold", x.earns(1, 0), 0);
    for (int no : NO_SORTS) {
      check.due("SORT " + no, x.earns(no, 0), RotMoney.RANGE);
    }
    for (int no : NO_DAYS) {
      check.due("DAY " + no, x.earns(0, no), RotMoney.RANGE);
    }
    check.due("SORT 1 of one", check.town("sort a 1 0 0;earn a 0 1;").earns(1, 0), RotMoney.RANGE);
  }

  private static void price() {
    check.says("8: The price of a THING on a DAY, as it is; RANGE");
    RotMoney x = check.town(THREE + "price t 0 1;price t 6 20;price v 0 20;price v 6 1;make v 0 9;");
    check.due("THING 0, DAY 0", x.price(0, 0), 1);
    check.due("THING 0, DAY 6", x.price(0, 6), 20);
    check.due("THING 2, DAY 0", x.price(2, 0), 20);
    check.due("THING 2, DAY 6", x.price(2, 6), 1);
    check.due("untold", x.price(1, 0), 5);
    for (int no : NO_THINGS) {
      check.due("THING " + no, x.price(no, 0), RotMoney.RANGE);
    }
    for (int no : NO_DAYS) {
      check.due("DAY " + no, x.price(0, no), RotMoney.RANGE);
    }
    x.rest(0);
    check.due("as it is", x.price(2, 0), 1);
    check.due("THING 1 of one", check.town("thing t 0 0;").price(1, 0), RotMoney.RANGE);
  }

  private static void made() {
    check.says("9: How many units are made (NONE: untold); RANGE");
    RotMoney x = check.town(THREE + "make t 0 0;make t 6 999;make v 0 999;make v 6 0;");
    check.due("THING 0, DAY 0", x.made(0, 0), 0);
    check.due("THING 0, DAY 6", x.made(0, 6), 999);
    check.due("THING 2, DAY 0", x.made(2, 0), 999);
    check.due("THING 2, DAY 6", x.made(2, 6), 0);
    check.due("untold", x.made(1, 0), RotMoney.NONE);
    for (int no : NO_THINGS) {
      check.due("THING " + no, x.made(no, 0), RotMoney.RANGE);
    }
    for (int no : NO_DAYS) {
      check.due("DAY " + no, x.made(0, no), RotMoney.RANGE);
    }
  }

  private static void wants() {
    check.says("10: what 0: the THING (NONE), 1: units, 2: WORTH (0 both without); RANGE");
    RotMoney x = check.town(FOUR + THREE + "want a t 0 1 0;want d v 6 3 99;");
    int[][] due = {{0, 0, 0, 0}, {0, 0, 1, 1}, {0, 0, 2, 0}, {3, 6, 0, 2}, {3, 6, 1, 3}, {3, 6, 2, 99},
        {0, 6, 0, -1}, {0, 6, 1, 0}, {0, 6, 2, 0}, {3, 0, 0, -1}, {3, 0, 1, 0}, {3, 0, 2, 0}};
    for (int[] row : due) {
      check.due("wants " + row[0] + ", " + row[1] + ", " + row[2], x.wants(row[0], row[1], row[2]), row[3]);
    }
    for (int no : NO_SORTS) {
      check.due("SORT " + no, x.wants(no, 0, 0), RotMoney.RANGE);
    }
    for (int no : NO_DAYS) {
      check.due("DAY " + no, x.wants(0, no, 0), RotMoney.RANGE);
    }
    int[] others = {-1, 3, LEAST, MOST};
    for (int no : others) {
      check.due("what " + no, x.wants(0, 0, no), RotMoney.RANGE);
    }
  }

  private static void nightBounds() {
    check.says("11: c (0 .. 60), a STORE of u units (0 .. 5); RANGE");
    RotMoney x = check.town("rot 6 900;thing t 0 1;");
    int[][] due = {{0, 0, 0, 0}, {60, 0, 0, 60}, {0, 5, 0, 0}, {60, 5, 0, 55}, {60, 0, 6, 6}, {60, 5, 6, 1},
        {0, 0, 6, 0}};
    for (int[] row : due) {
      check.due("night " + row[0] + ", " + row[1] + ", " + row[2], x.night(row[0], row[1], row[2]), row[3]);
    }
    for (int no : NO_COINS) {
      check.due("c " + no, x.night(no, 0, 0), RotMoney.RANGE);
    }
    for (int no : NO_STORES) {
      check.due("u " + no, x.night(0, no, 0), RotMoney.RANGE);
    }
    for (int no : NO_DAYS) {
      check.due("DAY " + no, x.night(0, 0, no), RotMoney.RANGE);
    }
    check.says("11: RANGE, also without THINGS and u above 0");
    RotMoney none = check.town("rot 0 500;sort a 1 0 0;");
    for (int u = 1; u <= 5; u++) {
      check.due("u " + u, none.night(60, u, 0), RotMoney.RANGE);
    }
    check.due("u 0", none.night(60, 0, 0), 30);
  }

  private static void nightLoses() {
    check.says("II: the STAMPS: COINS times what notes lose over 1000, rounded up");
    RotMoney x = check.town("rot 0 1;rot 1 900;rot 2 500;rot 3 0;rot 6 100;thing t 0 9;");
    int[][] due = {{0, 0, 0}, {1, 0, 0}, {60, 0, 59}, {0, 1, 0}, {1, 1, 0}, {10, 1, 1}, {11, 1, 1}, {19, 1, 1},
        {20, 1, 2}, {60, 1, 6}, {1, 2, 0}, {2, 2, 1}, {3, 2, 1}, {4, 2, 2}, {59, 2, 29}, {60, 2, 30},
        {1, 3, 1}, {60, 3, 60}, {60, 4, 60}, {50, 6, 45}, {51, 6, 45}, {59, 6, 53}, {60, 6, 54}};
    for (int[] row : due) {
      check.due("night " + row[0] + ", 0, " + row[1], x.night(row[0], 0, row[1]), row[2]);
    }
    check.says("II: then the STORE's cost: COINS for each unit (as far as there are COINS)");
    int[][] costs = {{60, 5, 4, 15}, {46, 5, 4, 1}, {45, 5, 4, 0}, {44, 5, 4, 0}, {1, 5, 4, 0}, {0, 5, 4, 0},
        {8, 1, 4, 0}, {9, 1, 4, 0}, {10, 1, 4, 1}, {20, 1, 2, 1}, {18, 1, 2, 0}, {17, 1, 2, 0}, {60, 3, 2, 3},
        {60, 5, 2, 0}};
    for (int[] row : costs) {
      check.due("night " + row[0] + ", " + row[1] + ", " + row[2], x.night(row[0], row[1], row[2]), row[3]);
    }
    check.due("no cost", check.town("thing t 0 0;").night(1, 5, 0), 1);
    check.due("of THING 0, if untold", check.town("thing t 0 3;thing u 0 9;").night(60, 5, 0), 45);
    check.due("of the THING that is stored", check.town("thing t 0 3;thing u 0 9;store u;").night(60, 5, 0), 15);
  }

  private static void storeSpoils() {
    check.says("II: of the STORE units times what SPOILS over 1000 (cut) are lost");
    int[][] due = {{0, 5, 5}, {199, 5, 5}, {200, 5, 4}, {399, 5, 4}, {400, 5, 3}, {999, 5, 1}, {1000, 5, 0},
        {999, 1, 1}, {1000, 1, 0}, {499, 2, 2}, {500, 2, 1}, {333, 3, 3}, {334, 3, 2}};
    for (int[] row : due) {
      // What is left he eats on the next days, three and two at most.
      RotMoney x = check.town("sort a 1 1000 0;thing t " + row[0] + " 0;want a t 1 3 1;");
      check.due("of " + row[1] + " at " + row[0], x.best(0, 0, 0, row[1], 2), Math.min(3, row[2]));
      RotMoney run = check.town("sort a 1 0 60;thing t " + row[0] + " 0;price t 0 1;price t 1 1;price t 2 1;");
      run.way(0, 0);
      run.pass(1);
      check.due("of two at " + row[0], run.run(0, 1), 2 - 2 * row[0] / 1000);
      check.due("lost", run.run(0, 5), 2 * row[0] / 1000);
    }
  }

  private static void mayBounds() {
    check.says("12: COINS (0 .. 60, earned ones, too) and a STORE (0 .. 5); RANGE");
    RotMoney x = check.town("sort a 1 0 0;sort b 1 0 0;sort c 1 0 0;sort d 1 0 0;thing t 0 0;earn a 0 20;"
        + "want a t 0 1 1;");
    for (int no : NO_SORTS) {
      check.due("SORT " + no, x.may(no, 0, 0, 0, 0), RotMoney.RANGE);
    }
    for (int no : NO_DAYS) {
      check.due("DAY " + no, x.may(0, no, 0, 0, 0), RotMoney.RANGE);
    }
    for (int no : NO_COINS) {
      check.due("COINS " + no, x.may(0, 0, no, 0, 0), RotMoney.RANGE);
    }
    for (int no : NO_STORES) {
      check.due("STORE " + no, x.may(0, 0, 0, no, 0), RotMoney.RANGE);
    }
    int[] noActs = {-1, 48, 49, 63, 64, LEAST, MOST};
    for (int no : noActs) {
      check.due("ACT " + no, x.may(0, 0, 0, 0, no), RotMoney.RANGE);
    }
    check.due("the greatest numbers", x.may(3, 6, 60, 5, 47), 0);
    check.due("the least ones", x.may(0, 0, 0, 0, 0), 1);
    check.due("the greatest ones, nothing done", x.may(3, 6, 60, 5, 0), 1);
    check.due("earned ones are in what he has", x.may(0, 0, 4, 0, 1), 0);
    check.due("five buy one", x.may(0, 0, 5, 0, 1), 1);
  }

  private static void may(RotMoney x, int day, int[][] rows) {
    for (int[] r : rows) {
      String call = "DAY " + day + ", COINS " + r[0] + ", STORE " + r[1] + ", " + act(r[2], r[3], r[4]);
      check.due(call, x.may(0, day, r[0], r[1], 16 * r[4] + 4 * r[3] + r[2]), r[5]);
    }
  }

  private static void mayActs() {
    RotMoney x = check.town("sort a 1 0 0;thing t 0 0;thing u 0 0;store t;want a t 0 3 1;want a t 1 1 1;"
        + "want a u 2 2 1;price t 0 20;price t 3 20;price u 2 7;price t 2 3;ill a 80;want a t 4 3 1;"
        + "want a t 5 2 1;");
    check.says("II: e and f together are at most what he wants that DAY (nothing: 0), e 0 .. 3");
    may(x, 0, new int[][] {{60, 0, 3, 0, 0, 1}, {60, 5, 2, 1, 0, 1}, {60, 5, 3, 1, 0, 0}, {60, 5, 1, 2, 0, 1},
        {60, 5, 2, 2, 0, 0}, {60, 5, 0, 3, 0, 1}, {60, 5, 1, 3, 0, 0}, {60, 5, 3, 3, 0, 0}});
    may(x, 1, new int[][] {{60, 5, 1, 0, 0, 1}, {60, 5, 2, 0, 0, 0}, {60, 5, 0, 1, 0, 1}, {60, 5, 0, 2, 0, 0},
        {60, 5, 1, 1, 0, 0}});
    may(x, 3, new int[][] {{60, 5, 0, 0, 0, 1}, {60, 5, 1, 0, 0, 0}, {60, 5, 0, 1, 0, 0}});
    check.says("II: f is 0 unless he wants the THING that is stored, and at most his STORE");
    may(x, 2, new int[][] {{60, 5, 0, 1, 0, 0}, {60, 5, 1, 1, 0, 0}, {60, 5, 2, 0, 0, 1}});
    may(x, 0, new int[][] {{60, 0, 0, 1, 0, 0}, {60, 1, 0, 1, 0, 1}, {60, 1, 0, 2, 0, 0}, {60, 2, 0, 2, 0, 1},
        {60, 2, 0, 3, 0, 0}, {60, 3, 0, 3, 0, 1}});
    // What he buys for his STORE he can't eat on the same DAY.
    may(x, 0, new int[][] {{60, 0, 0, 1, 1, 0}, {60, 1, 0, 1, 1, 1}});
    check.says("II: s 0 .. 2, STORE less f and s at most 5");
    may(x, 3, new int[][] {{60, 5, 0, 0, 1, 0}, {60, 4, 0, 0, 1, 1}, {60, 4, 0, 0, 2, 0}, {60, 3, 0, 0, 2, 1},
        {60, 0, 0, 0, 2, 1}});
    may(x, 0, new int[][] {{60, 5, 0, 1, 1, 1}, {60, 5, 0, 1, 2, 0}, {60, 5, 0, 2, 2, 1}, {60, 4, 0, 1, 2, 1},
        {60, 4, 0, 0, 2, 0}});
    check.says("II: he has COINS for e and s at that DAY's prices");
    may(x, 0, new int[][] {{20, 0, 1, 0, 0, 1}, {19, 0, 1, 0, 0, 0}, {40, 0, 2, 0, 0, 1}, {39, 0, 2, 0, 0, 0},
        {60, 0, 3, 0, 0, 1}, {59, 0, 3, 0, 0, 0}, {60, 0, 1, 0, 2, 1}, {59, 0, 1, 0, 2, 0},
        {60, 0, 2, 0, 1, 1}, {59, 0, 2, 0, 1, 0}, {60, 0, 2, 0, 2, 0}, {0, 0, 0, 0, 0, 1},
        {0, 3, 0, 3, 0, 1}});
    may(x, 2, new int[][] {{20, 0, 2, 0, 2, 1}, {19, 0, 2, 0, 2, 0}, {6, 0, 0, 0, 2, 1}, {5, 0, 0, 0, 2, 0},
        {14, 0, 2, 0, 0, 1}, {13, 0, 2, 0, 0, 0}});
    may(x, 5, new int[][] {{10, 0, 2, 0, 0, 1}, {9, 0, 2, 0, 0, 0}});
    check.says("II: ill: e and s are 0");
    may(x, 4, new int[][] {{60, 5, 0, 0, 0, 1}, {60, 5, 1, 0, 0, 0}, {60, 5, 0, 3, 0, 1}, {60, 0, 0, 0, 1, 0},
        {60, 5, 0, 1, 1, 0}, {60, 5, 2, 1, 0, 0}});
    may(x, 6, new int[][] {{60, 0, 0, 0, 0, 1}, {60, 0, 0, 0, 1, 0}});
    mayMore();
  }

  private static void mayMore() {
    check.says("I: ill: DAYS as bits 1 .. 127");
    int[] bits = {1, 2, 64, 126, 127};
    for (int ill : bits) {
      RotMoney x = check.town("sort a 1 0 0;thing t 0 0;ill a " + ill + ";");
      for (int day = 0; day < 7; day++) {
        check.due("ill " + ill + ", DAY " + day, x.may(0, day, 60, 0, 16), 1 - (ill >> day & 1));
      }
    }
    check.says("II: without THINGS nothing is bought or eaten");
    RotMoney none = check.town("sort a 1 0 0;");
    for (int number = 1; number < 48; number++) {
      check.due("ACT " + number, none.may(0, 0, 60, 0, number), 0);
    }
    check.due("nothing", none.may(0, 0, 60, 0, 0), 1);
    check.says("II: at that DAY's prices, as they are");
    RotMoney x = check.town("sort a 1 0 0;thing t 0 0;price t 0 20;make t 0 9;want a t 0 1 1;");
    check.due("at 20", x.may(0, 0, 19, 0, 1), 0);
    x.rest(0);
    check.due("at 1", x.may(0, 0, 1, 0, 1), 1);
    check.due("not for nothing", x.may(0, 0, 0, 0, 1), 0);
  }

  private static String everyDay(String clause, String behind) {
    StringBuilder all = new StringBuilder();
    for (int d = 0; d < 7; d++) {
      all.append(clause).append(d).append(behind);
    }
    return all.toString();
  }

  private static void bestBounds() {
    check.says("13, 14: RANGE");
    RotMoney x = check.town(FOUR + "thing t 0 0;");
    for (int no : NO_SORTS) {
      check.due("best, SORT " + no, x.best(no, 0, 0, 0, 1), RotMoney.RANGE);
      check.due("bestAct, SORT " + no, x.bestAct(no, 0, 0, 0, 1), RotMoney.RANGE);
    }
    for (int no : NO_DAYS) {
      check.due("best, DAY " + no, x.best(0, no, 0, 0, 1), RotMoney.RANGE);
      check.due("bestAct, DAY " + no, x.bestAct(0, no, 0, 0, 1), RotMoney.RANGE);
    }
    for (int no : NO_COINS) {
      check.due("best, COINS " + no, x.best(0, 0, no, 0, 1), RotMoney.RANGE);
      check.due("bestAct, COINS " + no, x.bestAct(0, 0, no, 0, 1), RotMoney.RANGE);
    }
    for (int no : NO_STORES) {
      check.due("best, STORE " + no, x.best(0, 0, 0, no, 1), RotMoney.RANGE);
      check.due("bestAct, STORE " + no, x.bestAct(0, 0, 0, no, 1), RotMoney.RANGE);
    }
    int[] noLengths = {-1, 29, LEAST, MOST};
    for (int no : noLengths) {
      check.due("best, n " + no, x.best(0, 0, 0, 0, no), RotMoney.RANGE);
      check.due("bestAct, n " + no, x.bestAct(0, 0, 0, 0, no), RotMoney.RANGE);
    }
    check.due("the greatest of all", x.best(3, 6, 60, 5, 28), 0);
    check.due("its ACT", x.bestAct(3, 6, 60, 5, 28), 0);
    check.says("II: for n DAYS (0 .. 28); (0 for 0 DAYS)");
    String daily = everyDay("earn a ", " 5;") + everyDay("want a t ", " 1 9;");
    RotMoney y = check.town("sort a 1 1000 0;thing t 0 0;" + daily);
    for (int n = 0; n <= 28; n++) {
      check.due("n " + n, y.best(0, 3, 0, 0, n), 9 * n);
      check.due("ACT, n " + n, y.bestAct(0, 3, 0, 0, n), n == 0 ? RotMoney.NONE : 1);
    }
    check.due("0 DAYS, after others", y.best(0, 3, 60, 5, 0), 0);
    RotMoney late = check.town("sort a 1 1000 0;thing t 0 0;earn a 0 5;want a t 6 1 1;");
    check.due("27 DAYS", late.best(0, 0, 0, 0, 27), 3);
    check.due("28 DAYS", late.best(0, 0, 0, 0, 28), 4);
    check.due("six DAYS", late.best(0, 0, 0, 0, 6), 0);
    check.due("seven DAYS", late.best(0, 0, 0, 0, 7), 1);
    check.due("behind DAY 6 comes DAY 0", late.best(0, 6, 0, 0, 8), 1);
    check.due("it does not come within seven", late.best(0, 6, 0, 0, 7), 0);
  }

  private static void bestOfEach() {
    check.says("II: of a PERSON of a SORT: each SORT has its own");
    String text = "sort a 1 0 0;sort b 1 1000 0;sort c 1 500 0;sort d 1 1000 0;thing t 0 0;thing u 0 0;thing v 0 0;"
        + "store v;price v 0 2;price v 1 20;price u 1 3;earn b 0 3;earn c 0 6;earn d 0 9;earn d 1 20;"
        + "want b u 1 3 5;want c u 1 3 7;want d v 1 3 9;want d u 2 1 99;price u 2 20;ill c 1;";
    RotMoney x = check.town(text);
    check.due("a wants nothing", x.best(0, 0, 60, 5, 2), 0);
    check.due("b buys one on DAY 1", x.best(1, 0, 0, 0, 2), 5);
    check.due("b waits", x.bestAct(1, 0, 0, 0, 2), 0);
    check.due("c buys two: half of 14", x.best(2, 0, 0, 0, 2), 7);
    check.due("d stores two at 2 and buys one at 20", x.best(3, 0, 0, 0, 2), 27);
    check.due("d stores two at 2", x.bestAct(3, 0, 0, 0, 2), 32);
    check.due("d keeps what he earns on DAY 1 for a u on DAY 2", x.best(3, 0, 0, 0, 3), 18 + 99);
    check.due("d on DAY 1 earns for one", x.best(3, 1, 0, 0, 1), 9);
    check.due("c on DAY 1 has nothing", x.best(2, 1, 0, 0, 1), 0);
    check.says("II: for his STORE of the THING that is stored, at its price");
    check.due("two at 2", x.may(3, 0, 4, 0, 32), 1);
    check.due("not for 3", x.may(3, 0, 3, 0, 32), 0);
    check.due("one at 20", x.may(1, 1, 20, 0, 16), 1);
    check.due("not for 19", x.may(1, 1, 19, 0, 16), 0);
    check.due("SPEND", x.wayAct(0, 3, 0, 3, 0), 16);
    check.due("SPEND: three of u, one of v", x.wayAct(0, 1, 1, 29, 0), 19);
    check.due("SPEND: three of u alone", x.wayAct(0, 1, 1, 28, 0), 3);
    check.due("c is ill on DAY 0", x.may(2, 0, 60, 0, 16), 0);
    check.due("d is not", x.may(3, 0, 60, 0, 16), 1);
    for (int sort = 0; sort < 4; sort++) {
      x.way(sort, 1);
    }
    x.pass(1);
    for (int sort = 0; sort < 4; sort++) {
      check.due("SORT " + sort + " earned", x.run(sort, 0), 3 * sort);
    }
    check.says("II: what he eats of his STORE, what he pays for it, is gone on the DAYS that follow");
    RotMoney eats = check.town("sort a 1 1000 0;thing t 0 0;want a t 0 3 9;want a t 1 3 9;want a t 2 3 9;");
    check.due("five in three DAYS", eats.best(0, 0, 0, 5, 3), 45);
    check.due("four in two DAYS", eats.best(0, 1, 0, 4, 2), 36);
    check.due("four in one DAY", eats.best(0, 2, 0, 4, 1), 27);
    RotMoney pays = check.town("sort a 1 1000 0;thing t 0 0;thing u 0 0;want a u 1 1 9;want a t 2 1 9;price t 1 20;"
        + "price t 2 20;");
    check.due("ten buy both", pays.best(0, 0, 10, 0, 3), 18);
    check.due("nine don't", pays.best(0, 0, 9, 0, 3), 9);
  }

  private static void bestByPatience() {
    check.says("II: (what is best from then on for n less 1 DAYS) times PATIENCE over 1000 (cut)");
    String daily = "thing t 0 0;" + everyDay("earn a ", " 5;") + everyDay("want a t ", " 1 9;");
    RotMoney none = check.town("sort a 1 0 0;" + daily);
    check.due("PATIENCE 0", none.best(0, 0, 60, 5, 28), 9);
    RotMoney most = check.town("sort a 1 999 0;" + daily);
    check.due("PATIENCE 999: 9 and 8", most.best(0, 0, 0, 0, 2), 17);
    check.due("nine, then one less each day", most.best(0, 0, 0, 0, 28), 9 + 27 * 8);
    String dear = " 0;thing t 0 0;" + everyDay("earn a ", " 3;") + everyDay("price t ", " 1;")
        + everyDay("want a t ", " 3 99;");
    check.due("PATIENCE 3: 0.891", check.town("sort a 1 3" + dear).best(0, 0, 0, 0, 2), 297);
    check.due("PATIENCE 4: 1.188", check.town("sort a 1 4" + dear).best(0, 0, 0, 0, 2), 298);
    check.due("PATIENCE 1000, the greatest sum", check.town("sort a 1 1000" + dear).best(0, 0, 0, 0, 28), 8316);
    check.says("II: the greatest, though it comes later");
    RotMoney later = check.town("sort a 1 500 5;thing t 0 0;want a t 0 1 9;want a t 1 1 20;");
    check.due("half of 20", later.best(0, 0, 5, 0, 2), 10);
    check.due("waits", later.bestAct(0, 0, 5, 0, 2), 0);
    check.due("one DAY", later.bestAct(0, 0, 5, 0, 1), 1);
  }

  private static void bestCoins() {
    check.says("II: he earns (COINS above 60 are lost)");
    RotMoney x = check.town("sort a 1 1000 0;thing t 0 0;earn a 0 20;price t 0 20;price t 1 20;"
        + "want a t 0 3 1;want a t 1 3 1;");
    check.due("60 and 20", x.best(0, 0, 60, 0, 2), 3);
    check.due("41 and 20", x.best(0, 0, 41, 0, 2), 3);
    check.due("40 and 20", x.best(0, 0, 40, 0, 2), 3);
    check.due("39 and 20", x.best(0, 0, 39, 0, 2), 2);
    check.due("0 and 20", x.best(0, 0, 0, 0, 2), 1);
    RotMoney full = check.town("sort a 1 1000 0;thing t 0 0;earn a 1 20;price t 1 20;price t 2 20;"
        + "want a t 1 3 1;want a t 2 3 1;ill a 1;");
    check.due("on a later DAY: 60 and 20", full.best(0, 0, 60, 0, 3), 3);
    check.due("on a later DAY: 39 and 20", full.best(0, 0, 39, 0, 3), 2);
    for (int earned = 1; earned <= 20; earned++) {
      RotMoney y = check.town("sort a 1 1000 0;thing t 0 0;earn a 1 " + earned + ";price t 2 20;want a t 2 3 1;ill a 3;");
      int[] had = {0, 19 - earned, 20 - earned, 39 - earned, 40 - earned, 59 - earned, 60 - earned, 61 - earned, 60};
      for (int coins : had) {
        if (coins >= 0 && coins <= 60) {
          check.due(coins + ", and " + earned + " on the next DAY", y.best(0, 0, coins, 0, 3),
              Math.min(60, coins + earned) / 20);
        }
      }
    }
    check.says("II: the ACT with it, the least number of alike ones");
    RotMoney y = check.town("sort a 1 1000 0;thing t 0 0;want a t 0 3 9;want a t 1 3 0;");
    check.due("bought ahead of eaten from the STORE", y.bestAct(0, 0, 60, 5, 1), 3);
    check.due("as far as there are COINS", y.bestAct(0, 0, 10, 5, 1), 6);
    check.due("none", y.bestAct(0, 0, 4, 5, 1), 12);
    check.due("nothing had", y.bestAct(0, 0, 4, 0, 1), 0);
    check.due("WORTH 0", y.bestAct(0, 1, 60, 5, 28), 0);
    check.due("nothing wanted", y.bestAct(0, 2, 60, 5, 1), 0);
    check.says("II: over ACTS that MAY be: no more than two a DAY for the STORE, no more than 5 in it");
    RotMoney s = check.town("rot 0 900;rot 1 900;rot 2 900;sort a 1 1000 0;thing t 0 0;price t 3 20;"
        + "price t 0 1;price t 1 1;price t 2 1;earn a 1 3;earn a 2 3;want a t 3 3 9;want a t 4 3 9;price t 4 20;");
    check.due("2, 2 and 1", s.best(0, 0, 3, 0, 5), 45);
    check.due("on one DAY two", s.best(0, 2, 3, 0, 3), 18);
    check.due("on two DAYS four", s.best(0, 1, 3, 0, 4), 36);
    check.due("ill, he eats from his STORE", check.town("sort a 1 1000 0;thing t 0 0;ill a 1;want a t 0 3 9;")
        .bestAct(0, 0, 60, 2, 1), 8);
  }

  private static void wayActBounds() {
    check.says("15: The ACT of a WAY (0 .. 4); RANGE");
    RotMoney x = check.town(FOUR + "thing t 0 0;");
    int[] noWays = {-1, 5, LEAST, MOST};
    for (int no : noWays) {
      check.due("WAY " + no, x.wayAct(no, 0, 0, 0, 0), RotMoney.RANGE);
    }
    for (int way = 0; way <= 4; way++) {
      for (int no : NO_SORTS) {
        check.due("WAY " + way + ", SORT " + no, x.wayAct(way, no, 0, 0, 0), RotMoney.RANGE);
      }
      for (int no : NO_DAYS) {
        check.due("WAY " + way + ", DAY " + no, x.wayAct(way, 0, no, 0, 0), RotMoney.RANGE);
      }
      for (int no : NO_COINS) {
        check.due("WAY " + way + ", COINS " + no, x.wayAct(way, 0, 0, no, 0), RotMoney.RANGE);
      }
      for (int no : NO_STORES) {
        check.due("WAY " + way + ", STORE " + no, x.wayAct(way, 0, 0, 0, no), RotMoney.RANGE);
      }
      check.due("WAY " + way + ", all at their least", x.wayAct(way, 0, 0, 0, 0), 0);
      check.due("WAY " + way + ", all at their greatest", x.wayAct(way, 3, 6, 60, 5), 0);
    }
  }

  private static void ways(RotMoney x, int way, int day, int[][] rows) {
    for (int[] r : rows) {
      check.due("WAY " + way + ", DAY " + day + ", COINS " + r[0] + ", STORE " + r[1],
          x.wayAct(way, 0, day, r[0], r[1]), r[2] + 4 * r[3] + 16 * r[4]);
    }
  }

  private static void wayActs() {
    // On DAY 0 notes lose, on DAY 1 they don't; on DAY 2 he wants another THING, on DAY 3 nothing.
    RotMoney x = check.town("rot 0 1;rot 1 0;rot 2 900;rot 3 1;rot 4 1;sort a 1 1000 0;thing t 0 0;thing u 0 0;"
        + "price t 0 4;price t 1 4;price t 2 3;price u 2 6;price t 3 20;want a t 0 3 9;want a t 1 3 9;"
        + "want a u 2 2 9;want a t 4 2 9;ill a 16;");
    check.says("II: 0 SPEND: he eats as much as he may, what he can buy ahead of what he has in STORE; then he "
        + "buys for his STORE as much as he may");
    ways(x, 0, 0, new int[][] {{0, 0, 0, 0, 0}, {3, 0, 0, 0, 0}, {4, 0, 1, 0, 0}, {11, 0, 2, 0, 0},
        {12, 0, 3, 0, 0}, {15, 0, 3, 0, 0}, {16, 0, 3, 0, 1}, {19, 0, 3, 0, 1}, {20, 0, 3, 0, 2}, {60, 0, 3, 0, 2},
        {60, 3, 3, 0, 2}, {60, 4, 3, 0, 1}, {60, 5, 3, 0, 0}, {8, 5, 2, 1, 0}, {11, 5, 2, 1, 0}, {4, 5, 1, 2, 0},
        {0, 5, 0, 3, 0}, {0, 1, 0, 1, 0}, {4, 1, 1, 1, 0}});
    ways(x, 0, 1, new int[][] {{60, 0, 3, 0, 2}});
    ways(x, 0, 2, new int[][] {{11, 5, 1, 0, 0}, {12, 4, 2, 0, 0}, {14, 0, 2, 0, 0}, {15, 0, 2, 0, 1},
        {18, 0, 2, 0, 2}, {11, 0, 1, 0, 1}, {5, 0, 0, 0, 1}});
    ways(x, 0, 3, new int[][] {{19, 0, 0, 0, 0}, {20, 0, 0, 0, 1}, {40, 0, 0, 0, 2}, {60, 0, 0, 0, 2},
        {60, 4, 0, 0, 1}, {60, 5, 0, 0, 0}});
    ways(x, 0, 4, new int[][] {{60, 0, 0, 0, 0}, {60, 1, 0, 1, 0}, {60, 5, 0, 2, 0}});
    check.says("II: 1 KEEP: he eats likewise; nothing for his STORE");
    ways(x, 1, 0, new int[][] {{0, 0, 0, 0, 0}, {3, 0, 0, 0, 0}, {4, 0, 1, 0, 0}, {12, 0, 3, 0, 0},
        {60, 0, 3, 0, 0}, {60, 5, 3, 0, 0}, {8, 5, 2, 1, 0}, {0, 5, 0, 3, 0}});
    ways(x, 1, 2, new int[][] {{60, 5, 2, 0, 0}, {5, 5, 0, 0, 0}});
    ways(x, 1, 3, new int[][] {{60, 0, 0, 0, 0}});
    ways(x, 1, 4, new int[][] {{60, 5, 0, 2, 0}});
    check.says("II: 2 STORE: he eats what he has in STORE ahead of what he can buy; on DAYS in whose NIGHT notes "
        + "lose he then buys for his STORE as much as he may");
    ways(x, 2, 0, new int[][] {{60, 0, 3, 0, 2}, {60, 2, 1, 2, 2}, {60, 3, 0, 3, 2}, {60, 5, 0, 3, 2},
        {0, 5, 0, 3, 0}, {3, 2, 0, 2, 0}, {4, 2, 1, 2, 0}, {7, 2, 1, 2, 0}, {8, 2, 1, 2, 1}, {12, 2, 1, 2, 2},
        {0, 0, 0, 0, 0}});
    ways(x, 2, 1, new int[][] {{60, 0, 3, 0, 0}, {60, 2, 1, 2, 0}, {60, 5, 0, 3, 0}});
    ways(x, 2, 2, new int[][] {{60, 5, 2, 0, 0}, {60, 4, 2, 0, 1}, {60, 0, 2, 0, 2}, {11, 0, 1, 0, 1}});
    ways(x, 2, 3, new int[][] {{60, 4, 0, 0, 1}, {60, 5, 0, 0, 0}, {39, 0, 0, 0, 1}});
    ways(x, 2, 4, new int[][] {{60, 5, 0, 2, 0}, {60, 0, 0, 0, 0}});
    ways(x, 2, 5, new int[][] {{60, 0, 0, 0, 0}});
    check.says("II: 4 FAST: nothing (e, f, s 0)");
    for (int day = 0; day < 7; day++) {
      ways(x, 4, day, new int[][] {{0, 0, 0, 0, 0}, {60, 5, 0, 0, 0}});
    }
  }

  private static void wayBest() {
    check.says("II: 3 BEST for 7 DAYS");
    RotMoney seventh = check.town("rot 0 900;sort a 1 1000 0;thing t 0 0;want a t 6 1 9;");
    check.due("the seventh counts", seventh.wayAct(3, 0, 0, 5, 0), 16);
    RotMoney eighth = check.town("rot 1 900;sort a 1 1000 0;thing t 0 0;want a t 1 1 9;");
    check.due("the eighth doesn't", eighth.wayAct(3, 0, 2, 5, 0), 0);
    check.says("15: (BEST: as if these were had ahead of a day without earning.)");
    RotMoney x = check.town("sort a 1 1000 0;thing t 0 0;earn a 0 5;earn a 1 5;want a t 0 1 9;want a t 1 1 9;");
    check.due("4 don't buy one", x.wayAct(3, 0, 0, 4, 0), 0);
    check.due("5 do", x.wayAct(3, 0, 0, 5, 0), 1);
    check.due("with earning none are needed", x.bestAct(0, 0, 0, 0, 7), 1);
    // On the next day he earns as ever: he need not keep what he has.
    RotMoney once = check.town("sort a 1 1000 0;thing t 0 0;earn a 1 5;want a t 0 1 1;want a t 1 1 9;");
    check.due("the next day's earning comes", once.wayAct(3, 0, 0, 5, 0), 1);
    RotMoney none = check.town("sort a 1 1000 0;thing t 0 0;want a t 0 1 1;want a t 1 1 9;");
    check.due("without it he waits", none.wayAct(3, 0, 0, 5, 0), 0);
  }

  public static void main(String[] args) {
    earns();
    price();
    made();
    wants();
    nightBounds();
    nightLoses();
    storeSpoils();
    mayBounds();
    mayActs();
    bestBounds();
    bestOfEach();
    bestByPatience();
    bestCoins();
    wayActBounds();
    wayActs();
    wayBest();
    check.finish("PersonBoundsTest");
  }
}
