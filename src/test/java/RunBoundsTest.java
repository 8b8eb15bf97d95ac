/** Terms III and promises 16 to 26: each sentence that names a bound of the run, of rates and of prices. */
public final class RunBoundsTest {
  private static final int LEAST = Integer.MIN_VALUE;
  private static final int MOST = Integer.MAX_VALUE;
  private static final Check check = new Check();

  /** The run's numbers of a sort, what 0 to 6. */
  private static void facts(String when, RotMoney x, int sort, int... due) {
    for (int what = 0; what < due.length; what++) {
      check.due(when + ", run(" + sort + ", " + what + ")", x.run(sort, what), due[what]);
    }
  }

  private static void way() {
    check.says("16: A SORT goes by a WAY (0 .. 4) from now on: by which it went; RANGE");
    RotMoney x = check.town("sort a 1 0 60;sort b 1 0 60;sort c 1 0 60;sort d 1 0 60;thing t 0 0;");
    int[] no = {-1, 5, LEAST, MOST};
    int[] noSorts = {-1, 4, LEAST, MOST};
    for (int sort = 0; sort < 4; sort++) {
      check.due("KEEP at first", x.way(sort, 0), 1);
      for (int way = 1; way <= 4; way++) {
        check.due("by WAY " + (way - 1), x.way(sort, way), way - 1);
      }
      for (int way : no) {
        check.due("WAY " + way, x.way(sort, way), RotMoney.RANGE);
      }
      check.due("it stays", x.way(sort, sort), 4);
    }
    for (int sort : noSorts) {
      check.due("SORT " + sort, x.way(sort, 0), RotMoney.RANGE);
    }
    for (int sort = 0; sort < 4; sort++) {
      check.due("each its own", x.way(sort, 0), sort);
    }
    RotMoney one = check.town("sort a 1 0 60;thing t 0 0;");
    one.pass(1);
    check.due("KEEP stores nothing", one.run(0, 1), 0);
    one.way(0, 0);
    one.pass(1);
    check.due("from now on", one.run(0, 1), 2);
    one.way(0, 4);
    one.pass(1);
    check.due("and no longer", one.run(0, 1), 2);
  }

  private static void pass() {
    check.says("17: So many DAYS (0 .. 70) of THE RUN pass: how many passed in all; RANGE");
    RotMoney x = check.town("sort a 1 0 0;earn a 0 1;");
    int[] no = {-1, 71, LEAST, MOST};
    for (int n : no) {
      check.due("pass(" + n + ")", x.pass(n), RotMoney.RANGE);
      check.due("none passed", x.all(1), 0);
    }
    check.due("none", x.pass(0), 0);
    check.due("one", x.pass(1), 1);
    check.due("its earning", x.run(0, 0), 1);
    check.due("seventy", x.pass(70), 71);
    check.due("ten more DAYS 0", x.run(0, 0), 11);
    check.due("none more", x.pass(0), 71);
    check.due("nothing more", x.run(0, 0), 11);
    check.says("II, III: behind DAY 6 comes DAY 0");
    RotMoney days = check.town("sort a 1 0 0;earn a 0 1;earn a 6 20;");
    days.pass(6);
    check.due("six DAYS", days.run(0, 0), 1);
    days.pass(1);
    check.due("seven", days.run(0, 0), 21);
    days.pass(1);
    check.due("eight", days.run(0, 0), 22);
    check.says("An object is used for at most 512 calls: all of them pass 70 DAYS");
    RotMoney far = check.town("sort a 99 0 60;thing t 0 0;price t 0 1;price t 1 1;price t 2 1;price t 3 1;"
        + "price t 4 1;price t 5 1;price t 6 1;earn a 0 3;earn a 1 3;earn a 2 3;earn a 3 3;earn a 4 3;earn a 5 3;"
        + "earn a 6 3;want a t 0 3 99;want a t 1 3 99;want a t 2 3 99;want a t 3 3 99;want a t 4 3 99;"
        + "want a t 5 3 99;want a t 6 3 99;");
    for (int i = 1; i <= 470; i++) {
      check.due("pass", far.pass(70), 70 * i);
    }
    int n = 70 * 470;
    facts("far on", far, 0, 57, 0, 99 * 3 * n, 0, 99 * 297 * n, 0, 0);
    check.due("ROUND", far.all(2), (int) (1000L * 3 / 57));
    check.due("bought", far.all(3), 99 * 3 * n);
  }

  private static void runBounds() {
    check.says("18: Of THE RUN, of a SORT, what 0 .. 6; RANGE");
    RotMoney x = check.town("sort a 1 0 7;sort b 1 0 8;sort c 1 0 9;sort d 1 0 60;");
    facts("at first", x, 0, 7, 0, 0, 0, 0, 0, 0);
    facts("at first", x, 3, 60, 0, 0, 0, 0, 0, 0);
    int[] noSorts = {-1, 4, LEAST, MOST};
    int[] no = {-1, 7, LEAST, MOST};
    for (int sort : noSorts) {
      check.due("SORT " + sort, x.run(sort, 0), RotMoney.RANGE);
    }
    for (int what : no) {
      check.due("what " + what, x.run(0, what), RotMoney.RANGE);
    }
    check.due("SORT 1 of one", check.town("sort a 1 0 7;").run(1, 0), RotMoney.RANGE);
    check.says("19: NONE for others");
    int[] others = {-1, 4, LEAST, MOST};
    for (int what : others) {
      check.due("all(" + what + ")", x.all(what), RotMoney.NONE);
    }
    check.says("II: he earns (COINS above 60 are lost)");
    int[][] rows = {{39, 20, 59}, {40, 20, 60}, {41, 20, 60}, {59, 1, 60}, {60, 1, 60}, {60, 20, 60}, {0, 20, 20}};
    for (int[] row : rows) {
      RotMoney y = check.town("sort a 2 0 " + row[0] + ";earn a 0 " + row[1] + ";");
      y.pass(1);
      check.due(row[0] + " and " + row[1], y.run(0, 0), row[2]);
    }
  }

  private static void aDay() {
    check.says("18: 2: what all PERSONS of it paid, 3: their STAMPS, 4: WORTH of all they ate, 5: units of "
        + "theirs that were lost in stores");
    RotMoney x = check.town("rot 0 100;sort a 99 0 60;sort b 1 0 60;thing t 500 9;price t 0 4;price t 1 1;"
        + "want a t 0 3 99;want b t 0 3 99;");
    x.way(0, 0);
    x.way(1, 4);
    x.pass(1);
    // a eats 3 and stores 2 at 4: 40 are left, 4 stamps, 18 for the store; one of two is lost.
    facts("a", x, 0, 18, 1, 99 * 20, 99 * 4, 99 * 297, 99, 0);
    facts("b", x, 1, 54, 0, 0, 6, 0, 0, 0);
    check.due("CHEST", x.all(0), 99 * 4 + 6);
    check.due("bought", x.all(3), 99 * 5);
    check.due("ROUND", x.all(2), 1000 * 99 * 20 / (99 * 40 + 60));
    x.way(0, 1);
    x.pass(1);
    // The store's one unit costs 9, and half of it is none; what it costs is not paid for units.
    facts("the next day", x, 0, 9, 1, 99 * 20, 99 * 4, 99 * 297, 99, 0);
    check.due("ROUND", x.all(2), 1000 * 99 * 20 / (99 * 40 + 60 + 99 * 18 + 54));
    x.pass(1);
    facts("as far as there are COINS", x, 0, 0, 1, 99 * 20, 99 * 4, 99 * 297, 99, 0);
    x.pass(1);
    facts("without COINS", x, 0, 0, 1, 99 * 20, 99 * 4, 99 * 297, 99, 0);
  }

  private static void chest() {
    check.says("III: each PERSON of its SORT gets what is in it over PEOPLE (cut), what is over stays");
    // All stamps are of DAY 6: with 900 lost of few coins, all of them.
    int[][] rows = {{3, 0, 3, 0}, {4, 1, 0, 4}, {5, 1, 1, 4}, {7, 1, 3, 4}, {8, 2, 0, 8}, {9, 2, 1, 8}, {0, 0, 0, 0}};
    for (int[] row : rows) {
      RotMoney x = check.town("rot 6 900;sort a 1 0 " + row[0] + ";sort b 4 0 0;chest b;");
      x.pass(7);
      check.due(row[0] + " in it", x.all(0), row[0]);
      check.due("none got", x.run(1, 6), 0);
      x.pass(1);
      facts(row[0] + " in it", x, 1, row[1], 0, 0, 0, 0, 0, row[3]);
      check.due("stays", x.all(0), row[2]);
      check.due("the others got nothing", x.run(0, 6), 0);
    }
    check.says("III: on DAY 0 alone");
    RotMoney late = check.town("rot 0 900;sort a 1 0 60;sort b 4 0 0;chest b;");
    late.pass(1);
    for (int day = 1; day < 7; day++) {
      check.due("DAY " + day, late.all(0), 54);
      late.pass(1);
    }
    check.due("ahead of DAY 0", late.all(0), 54);
    late.pass(1);
    // Each got 13 and loses 12 of them in the same NIGHT; a loses all 6.
    check.due("got", late.run(1, 6), 52);
    check.due("CHEST", late.all(0), 2 + 4 * 12 + 6);
    late.pass(7);
    check.due("got in all: 56 more", late.run(1, 6), 52 + 56);
    chestFull();
  }

  private static void chestFull() {
    check.says("III: (above 60 it is lost)");
    // 60 coins, 6 stamps on DAY 5, then an earning on DAY 6, then 6 from the CHEST.
    int[][] rows = {{1, 60}, {2, 60}, {6, 60}, {20, 60}};
    for (int[] row : rows) {
      RotMoney x = check.town("rot 5 100;sort a 2 0 60;earn a 6 " + row[0] + ";chest a;");
      x.pass(7);
      check.due("ahead of it", x.run(0, 0), Math.min(60, 54 + row[0]));
      x.pass(1);
      check.due("behind it", x.run(0, 0), row[1]);
      check.due("got", x.run(0, 6), 12);
      check.due("CHEST", x.all(0), 0);
    }
    RotMoney just = check.town("rot 5 100;sort a 2 0 60;chest a;");
    just.pass(8);
    check.due("just 60", just.run(0, 0), 60);
    check.says("III: (nobody: all stays)");
    RotMoney nobody = check.town("rot 0 900;rot 6 1;sort a 2 0 60;sort b 1 0 10;");
    nobody.pass(70);
    facts("nobody", nobody, 0, 0, 0, 0, 2 * 60, 0, 0, 0);
    facts("nobody", nobody, 1, 0, 0, 0, 10, 0, 0, 0);
    check.due("all of it", nobody.all(0), 130);
    check.says("III: first the CHEST, then each SORT: what it brings is spent on the same DAY");
    RotMoney spent = check.town("rot 6 900;sort a 1 0 5;sort b 1 0 0;thing t 0 0;want b t 0 1 9;chest b;");
    spent.pass(8);
    facts("spent", spent, 1, 0, 0, 5, 0, 9, 0, 5);
  }

  private static void made() {
    check.says("III: of what was made of a THING each PERSON can get at most what is left over PEOPLE (cut)");
    int[][] rows = {{0, 0}, {2, 0}, {3, 1}, {5, 1}, {6, 2}, {8, 2}, {9, 3}, {999, 3}};
    for (int[] row : rows) {
      RotMoney x = check.town("sort a 3 0 60;thing t 0 0;price t 0 1;make t 0 " + row[0] + ";want a t 0 3 9;");
      x.pass(1);
      facts("made " + row[0], x, 0, 60 - row[1], 0, 3 * row[1], 0, 27 * row[1], 0, 0);
      check.due("bought", x.all(3), 3 * row[1]);
    }
    RotMoney many = check.town("sort a 99 0 60;thing t 0 0;make t 0 98;make t 1 99;want a t 0 1 1;want a t 1 1 1;");
    many.pass(1);
    check.due("98 for 99", many.all(3), 0);
    many.pass(1);
    check.due("99 for 99", many.all(3), 99);
    check.says("III: as many as one likes, if untold");
    RotMoney untold = check.town("sort a 99 0 60;sort b 99 0 60;sort c 99 0 60;sort d 99 0 60;thing t 0 0;"
        + "price t 0 1;want a t 0 3 1;want b t 0 3 1;want c t 0 3 1;want d t 0 3 1;");
    for (int sort = 0; sort < 4; sort++) {
      untold.way(sort, 0);
    }
    untold.pass(1);
    check.due("all get five", untold.all(3), 4 * 99 * 5);
    check.says("III: each SORT by numbers: what is left");
    RotMoney left = check.town("sort a 2 0 60;sort b 3 0 60;sort c 1 0 60;thing t 0 0;make t 0 8;want a t 0 2 1;"
        + "want b t 0 3 1;want c t 0 3 1;");
    left.pass(1);
    check.due("a: 8 for 2", left.run(0, 4), 4);
    check.due("b: 4 for 3", left.run(1, 4), 3);
    check.due("c: 1 for 1", left.run(2, 4), 1);
    madeCuts();
  }

  private static void madeCuts() {
    check.says("III: each ACT, as its WAY has it without such bounds, is cut to that, e ahead of s (f stays)");
    // SPEND: three to eat and two for the STORE.
    int[][] rows = {{0, 0, 0}, {1, 1, 0}, {2, 2, 0}, {3, 3, 0}, {4, 3, 1}, {5, 3, 2}, {6, 3, 2}};
    for (int[] row : rows) {
      RotMoney x = check.town("sort a 1 0 60;thing t 0 0;make t 0 " + row[0] + ";want a t 0 3 9;");
      x.way(0, 0);
      x.pass(1);
      facts("made " + row[0], x, 0, 60 - 5 * (row[1] + row[2]), row[2], 5 * (row[1] + row[2]), 0, 9 * row[1], 0, 0);
    }
    // On DAY 1 he has two in STORE and would buy three: he gets none, and eats none from his STORE instead.
    RotMoney none = check.town("sort a 1 0 60;thing t 0 0;make t 1 0;want a t 1 3 9;");
    none.way(0, 0);
    none.pass(2);
    facts("no f in place of e", none, 0, 50, 2, 10, 0, 0, 0, 0);
    // By STORE he eats both of his STORE and would buy one more.
    RotMoney stays = check.town("rot 0 1;sort a 1 0 60;thing t 0 0;make t 1 0;want a t 1 3 9;");
    stays.way(0, 2);
    stays.pass(2);
    facts("f stays", stays, 0, 49, 0, 10, 1, 18, 0, 0);
    // BEST looks at no such bounds: he waits for DAY 1, where nothing is made.
    RotMoney best = check.town("sort a 1 1000 5;thing t 0 0;make t 1 0;want a t 0 1 8;want a t 1 1 9;ill a 1;");
    best.way(0, 3);
    best.pass(2);
    facts("BEST", best, 0, 5, 0, 0, 0, 0, 0, 0);
    check.says("III: each THING has its own bound");
    RotMoney two = check.town("sort a 1 0 60;thing t 0 0;thing u 0 0;make t 0 1;make u 0 2;want a u 0 3 9;");
    two.way(0, 0);
    two.pass(1);
    facts("two of u, one of t", two, 0, 45, 1, 15, 0, 18, 0, 0);
    check.says("III: what is made is made each week, and what nobody bought is gone");
    RotMoney weeks = check.town("sort a 1 0 60;thing t 0 0;price t 0 1;make t 0 4;want a t 0 3 1;");
    weeks.pass(8);
    check.due("three and three", weeks.run(0, 4), 6);
  }

  private static void round() {
    check.says("III: ROUND: .. cut; none without any held");
    RotMoney x = check.town("sort a 1 0 5;thing t 0 0;want a t 0 1 9;want a t 2 1 9;earn a 1 3;earn a 2 2;");
    check.due("ahead of a DAY", x.all(2), RotMoney.NONE);
    x.pass(1);
    check.due("paid, none held", x.all(2), RotMoney.NONE);
    x.pass(1);
    check.due("5 over 3", x.all(2), 1666);
    x.pass(1);
    check.due("10 over 3", x.all(2), 3333);
    RotMoney idle = check.town("sort a 1 0 0;sort b 99 0 1;");
    idle.pass(1);
    check.due("held, none paid", idle.all(2), 0);
    check.due("without PERSONS", pastDays(new RotMoney()).all(2), RotMoney.NONE);
    check.says("III: held at all DAYS' ends (ahead of THE NIGHT)");
    RotMoney night = check.town("rot 0 900;sort a 1 0 15;thing t 0 0;want a t 0 1 9;");
    night.pass(1);
    check.due("5 over 10", night.all(2), 500);
    night.pass(1);
    check.due("5 over 11", night.all(2), 454);
  }

  private static RotMoney pastDays(RotMoney x) {
    x.pass(9);
    return x;
  }

  private static void anew() {
    check.says("20: THE RUN begins anew (WAYS, prices stay): how many DAYS had passed");
    RotMoney x = check.town("rot 0 500;sort a 1 0 60;sort b 1 0 30;thing t 500 0;make t 1 9;chest b;");
    check.due("none had", x.anew(), 0);
    x.way(0, 0);
    x.way(1, 4);
    x.rest(0);
    x.pass(70);
    x.pass(3);
    x.keep(1);
    check.due("73 had", x.anew(), 73);
    check.due("none have", x.anew(), 0);
    facts("a", x, 0, 60, 0, 0, 0, 0, 0, 0);
    facts("b", x, 1, 30, 0, 0, 0, 0, 0, 0);
    check.due("CHEST", x.all(0), 0);
    check.due("DAYS", x.all(1), 0);
    check.due("ROUND", x.all(2), RotMoney.NONE);
    check.due("bought", x.all(3), 0);
    check.due("price", x.price(0, 1), 1);
    check.due("turns", x.restTurns(), 5);
    check.due("a's WAY", x.way(0, 0), 0);
    check.due("b's WAY", x.way(1, 4), 4);
    check.due("SLOT 1", x.take(1), 73);
    check.due("SLOT 0", x.take(0), RotMoney.STATE);
  }

  private static void slots() {
    check.says("21, 22: A SLOT (0 .. 2); RANGE; STATE: it is empty");
    RotMoney x = check.town("rot 0 100;sort a 2 0 60;sort b 1 0 9;thing t 0 0;want a t 0 3 9;make t 1 9;chest b;");
    int[] no = {-1, 3, LEAST, MOST};
    for (int slot : no) {
      check.due("keep(" + slot + ")", x.keep(slot), RotMoney.RANGE);
      check.due("take(" + slot + ")", x.take(slot), RotMoney.RANGE);
    }
    for (int slot = 0; slot < 3; slot++) {
      check.due("empty " + slot, x.take(slot), RotMoney.STATE);
    }
    check.due("a RUN of no DAYS", x.keep(1), 0);
    check.due("is kept", x.take(1), 0);
    check.due("others are empty", x.take(0), RotMoney.STATE);
    check.due("others are empty", x.take(2), RotMoney.STATE);
    x.way(0, 0);
    x.pass(8);
    int[] then = {x.run(0, 0), x.run(0, 1), x.run(0, 2), x.run(0, 3), x.run(0, 4), x.run(0, 5), x.run(1, 6),
        x.all(0), x.all(2), x.all(3)};
    check.due("SLOT 0", x.keep(0), 8);
    check.due("SLOT 2", x.keep(2), 8);
    x.way(0, 4);
    x.way(1, 3);
    x.rest(0);
    x.pass(70);
    check.due("SLOT 2 again", x.keep(2), 78);
    for (int again = 0; again < 2; again++) {
      check.due("SLOT 0", x.take(0), 8);
      int[] now = {x.run(0, 0), x.run(0, 1), x.run(0, 2), x.run(0, 3), x.run(0, 4), x.run(0, 5), x.run(1, 6),
          x.all(0), x.all(2), x.all(3)};
      for (int i = 0; i < now.length; i++) {
        check.due("number " + i, now[i], then[i]);
      }
      check.due("a's WAY", x.way(0, 2), 0);
      check.due("b's WAY", x.way(1, 2), 1);
      check.due("it goes on", x.pass(1), 9);
    }
    check.due("prices are not kept", x.price(0, 1), 1);
    check.due("turns are not kept", x.restTurns(), 5);
    check.due("SLOT 2", x.take(2), 78);
    check.due("its WAY", x.way(0, 4), 4);
    check.due("its WAY", x.way(1, 4), 3);
    check.due("SLOT 1", x.take(1), 0);
    check.due("its COINS", x.run(0, 0), 60);
    check.due("its WAY", x.way(0, 1), 1);
  }

  private static void goesOn() {
    check.says("22: THE RUN becomes as a SLOT keeps it, and goes on from there");
    String text = "rot 2 300;sort a 3 900 30;sort b 2 500 20;thing t 300 1;earn a 1 9;earn b 4 20;want a t 3 3 9;"
        + "want b t 0 2 5;make t 3 7;chest a;";
    RotMoney straight = check.town(text);
    RotMoney broken = check.town(text);
    straight.way(0, 3);
    broken.way(0, 3);
    broken.pass(10);
    broken.keep(0);
    broken.way(0, 4);
    broken.pass(33);
    broken.anew();
    broken.take(0);
    straight.pass(31);
    broken.pass(21);
    for (int sort = 0; sort < 2; sort++) {
      for (int what = 0; what < 7; what++) {
        check.due("run(" + sort + ", " + what + ")", broken.run(sort, what), straight.run(sort, what));
      }
    }
    for (int what = 0; what < 4; what++) {
      check.due("all(" + what + ")", broken.all(what), straight.all(what));
    }
  }

  private static void ratesBounds() {
    check.says("23: WORTH of all at a RATE (0 .. 18 times 50) in w weeks (1 .. 4); RANGE");
    RotMoney x = check.town("rot 0 1;sort a 2 0 0;thing t 0 0;price t 1 1;earn a 0 20;want a t 1 3 9;");
    // Twenty less the stamps: 18 at 100, 1 at 900; three are eaten while three are left.
    int[] coins = new int[19];
    for (int rate = 0; rate <= 18; rate++) {
      coins[rate] = 20 - rate;
      check.due("RATE " + rate, x.worthAt(rate, 1), 2 * 9 * Math.min(3, coins[rate]));
    }
    int[] noRates = {-1, 19, 50, 900, LEAST, MOST};
    for (int rate : noRates) {
      check.due("RATE " + rate, x.worthAt(rate, 1), RotMoney.RANGE);
    }
    int[] noWeeks = {-1, 0, 5, LEAST, MOST};
    for (int w : noWeeks) {
      check.due("worthAt, w " + w, x.worthAt(0, w), RotMoney.RANGE);
      check.due("rate, w " + w, x.rate(w), RotMoney.RANGE);
    }
    for (int w = 1; w <= 4; w++) {
      check.due("w " + w, x.worthAt(0, w), 54 * w);
    }
    check.says("III: w weeks have their last DAY");
    RotMoney last = check.town("sort a 2 0 0;thing t 0 0;earn a 6 5;want a t 6 1 9;");
    for (int w = 1; w <= 4; w++) {
      check.due("w " + w, last.worthAt(0, w), 18 * w);
    }
    check.says("24: THE RATE in w weeks (1 .. 4): how many times 50");
    check.due("the least of alike ones", x.rate(1), 0);
    check.due("in four weeks", x.rate(4), 0);
    // Of the stamps' 3 a unit one more is bought for each 50.
    for (int rate = 1; rate <= 18; rate++) {
      int price = Math.min(20, rate * 3);
      RotMoney y = check.town("rot 6 1;sort a 1 0 60;sort b 1 0 0;thing t 0 0;price t 0 " + price
          + ";want b t 0 1 9;chest b;");
      check.due("stamps of at least " + price, y.rate(2), (price + 2) / 3);
      check.due("one week has no stamps to spend", y.rate(1), 0);
    }
    RotMoney most = check.town("rot 6 1;sort a 1 0 60;sort b 1 0 0;thing t 0 0;price t 0 18;want b t 0 3 9;chest b;");
    check.due("850", most.worthAt(17, 2), 18);
    check.due("900", most.worthAt(18, 2), 27);
    check.due("the greatest RATE", most.rate(2), 18);
  }

  private static void ratesNights() {
    check.says("III: in place of what notes lose in each NIGHT in which they lose (told above 0)");
    String wants = "sort a 1 0 20;thing t 0 0;price t 1 20;want a t 1 1 9;";
    check.due("untold", check.town(wants).worthAt(18, 1), 9);
    check.due("told 0", check.town("rot 0 0;" + wants).worthAt(18, 1), 9);
    check.due("told 1", check.town("rot 0 1;" + wants).worthAt(18, 1), 0);
    check.due("told 900, at 0", check.town("rot 0 900;" + wants).worthAt(0, 1), 9);
    check.due("the night behind DAY 1 comes too late", check.town("rot 1 1;" + wants).worthAt(18, 1), 9);
    check.says("III: a RUN of w weeks as from the beginning, by the WAYS as they are");
    RotMoney x = check.town("rot 0 1;" + wants);
    x.pass(9);
    check.due("from the beginning", x.worthAt(0, 1), 9);
    check.due("THE RUN stays", x.all(1), 9);
    check.due("its COINS, less two NIGHTS", x.run(0, 0), 18);
    x.way(0, 4);
    check.due("FAST", x.worthAt(0, 1), 0);
    check.due("FAST", x.rate(1), 0);
    x.way(0, 2);
    check.due("STORE: stored at 5 ahead of a NIGHT that loses", x.worthAt(18, 1), 9);
    check.due("what is told stays", x.told(10), 1);
    check.due("and the NIGHT, too", x.night(20, 0, 0), 19);
    check.due("and HELD", x.lend(20, 1, 0, 1), 19);
    check.says("III: WORTH of all (PEOPLE times)");
    RotMoney many = check.town("sort a 99 0 60;sort b 98 0 60;thing t 0 0;price t 0 1;want a t 0 3 99;want b t 0 3 99;");
    check.due("of all", many.worthAt(7, 1), (99 + 98) * 297);
    check.says("III: bounds of what is made hold for RATES");
    RotMoney few = check.town("sort a 2 0 60;thing t 0 0;make t 0 3;want a t 0 3 9;");
    check.due("one each", few.worthAt(0, 1), 18);
    check.says("III: by prices as they are");
    RotMoney priced = check.town("sort a 1 0 3;thing t 0 0;make t 0 9;want a t 0 3 9;");
    check.due("at 5", priced.worthAt(0, 1), 0);
    priced.rest(0);
    check.due("at 1", priced.worthAt(0, 1), 27);
  }

  private static void rest() {
    check.says("25: from the prices as they are (0) or as told (1); RANGE");
    RotMoney x = check.town("sort a 1 0 0;thing t 0 0;make t 0 1;price t 0 3;");
    check.due("NONE ahead of any", x.restTurns(), RotMoney.NONE);
    int[] no = {-1, 2, LEAST, MOST};
    for (int from : no) {
      check.due("rest(" + from + ")", x.rest(from), RotMoney.RANGE);
      check.due("no turns", x.restTurns(), RotMoney.NONE);
      check.due("no price moved", x.price(0, 0), 3);
    }
    check.due("as they are", x.rest(0), 1);
    check.due("two down, one still", x.restTurns(), 3);
    check.due("which they become", x.price(0, 0), 1);
    check.due("as they are now", x.rest(0), 1);
    check.due("one still", x.restTurns(), 1);
    check.due("as told", x.rest(1), 1);
    check.due("two down, one still", x.restTurns(), 3);
    for (int from : no) {
      check.due("rest(" + from + ")", x.rest(from), RotMoney.RANGE);
      check.due("turns stay", x.restTurns(), 3);
      check.due("the price stays", x.price(0, 0), 1);
    }
    // As told he buys one at 3; as they are after FAST, at 1, he buys one as well.
    check.says("25: as told (1), which they become then, also when they rest at once");
    RotMoney y = check.town("sort a 1 0 3;thing t 0 0;make t 0 1;price t 0 3;want a t 0 1 9;");
    y.way(0, 4);
    y.rest(0);
    check.due("fell to 1", y.price(0, 0), 1);
    y.way(0, 1);
    check.due("at rest at 1", y.rest(0), 1);
    check.due("at 1", y.price(0, 0), 1);
    check.due("at rest at 3", y.rest(1), 1);
    check.due("at 3", y.price(0, 0), 3);
  }

  private static void restPrices() {
    check.says("III: the price is one more (20 at most), if more units were bought than are made");
    int[][] up = {{20, 1, 20}, {19, 2, 20}, {18, 3, 20}, {1, 20, 20}};
    for (int[] row : up) {
      RotMoney x = check.town("sort a 1 0 60;thing t 0 0;make t 0 0;price t 0 " + row[0] + ";want a t 0 1 9;");
      check.due("from " + row[0], x.rest(0), 1);
      check.due("turns from " + row[0], x.restTurns(), row[1]);
      check.due("price from " + row[0], x.price(0, 0), row[2]);
    }
    check.says("III: one less (1 at least), if fewer");
    int[][] down = {{1, 1, 1}, {2, 2, 1}, {3, 3, 1}, {20, 20, 1}};
    for (int[] row : down) {
      RotMoney x = check.town("sort a 1 0 60;thing t 0 0;make t 0 2;price t 0 " + row[0] + ";want a t 0 1 9;");
      check.due("from " + row[0], x.rest(0), 1);
      check.due("turns from " + row[0], x.restTurns(), row[1]);
      check.due("price from " + row[0], x.price(0, 0), row[2]);
    }
    check.says("III: neither, if just as many");
    RotMoney same = check.town("sort a 99 0 60;thing t 0 0;make t 0 297;make t 1 0;want a t 0 3 9;");
    check.due("at rest", same.rest(0), 1);
    check.due("one turn", same.restTurns(), 1);
    check.due("the price stays", same.price(0, 0) * 10 + same.price(0, 1), 55);
    check.says("III: of each THING and DAY for which make is told");
    RotMoney told = check.town("sort a 1 0 60;thing t 0 0;thing u 0 0;thing v 0 0;make t 0 9;make v 6 9;make t 6 0;"
        + "make v 0 0;want a t 6 1 9;want a v 0 1 9;");
    check.due("at rest", told.rest(0), 1);
    int[][] due = {{0, 0, 1}, {2, 6, 1}, {0, 6, 20}, {2, 0, 20}, {1, 0, 5}, {0, 1, 5}, {2, 5, 5}, {1, 6, 5}};
    for (int[] row : due) {
      check.due("price " + row[0] + ", " + row[1], told.price(row[0], row[1]), row[2]);
    }
    check.says("III: all at once");
    check.due("15 up, 4 down, one still", told.restTurns(), 16);
  }

  private static void restTurns() {
    check.says("III: turn by turn, at most 60");
    String behind = ";make t 0 19;make t 2 0;make t 3 0;make t 4 0;want b t 0 3 0;";
    RotMoney sixty = check.town("sort b 1 0 34;thing t 0 0;price t 0 19" + behind);
    sixty.way(0, 0);
    check.due("the 60th changes none", sixty.rest(0), 1);
    check.due("sixty", sixty.restTurns(), 60);
    RotMoney more = check.town("sort b 1 0 34;thing t 0 0;price t 0 20" + behind);
    more.way(0, 0);
    check.due("the 61st would change none", more.rest(0), 0);
    check.due("sixty", more.restTurns(), 60);
    check.due("that one", more.rest(0), 1);
    check.due("is the first from there", more.restTurns(), 1);
    check.says("III: AT REST: a turn changed none");
    // Ten coins buy two at 5 and one at 6: never just the three that are made for two people.
    RotMoney swings = check.town("sort a 2 0 10;thing t 0 0;make t 0 3;want a t 0 3 9;");
    check.due("never", swings.rest(0), 0);
    check.due("sixty", swings.restTurns(), 60);
    check.due("behind the 60th", swings.price(0, 0), 5);
    check.due("never", swings.rest(0), 0);
    check.due("behind 60 more", swings.price(0, 0), 5);
    check.says("III: a RUN of one week as from the beginning by the WAYS as they are, without bounds of what is made");
    RotMoney x = check.town("sort a 1 0 0;thing t 0 0;make t 1 0;want a t 1 1 9;earn a 6 20;");
    x.pass(8);
    check.due("he has no COINS on DAY 1 of the first week", x.rest(0), 1);
    check.due("so that he buys none", x.restTurns(), 1);
    check.due("THE RUN stays", x.all(1), 8);
    check.due("its COINS stay", x.run(0, 0), 20);
    RotMoney more2 = check.town("sort a 1 0 60;thing t 0 0;make t 0 0;want a t 0 1 9;");
    check.due("bought, though none is made", more2.rest(0), 1);
    check.due("up to 20", more2.price(0, 0), 20);
    RotMoney week = check.town("sort a 1 0 0;thing t 0 0;make t 6 0;earn a 6 20;want a t 6 1 9;");
    check.due("DAY 6 is in the week", week.rest(0), 1);
    check.due("up to 20", week.price(0, 6), 20);
    RotMoney next = check.town("sort a 1 0 0;thing t 0 0;make t 0 0;earn a 6 20;want a t 0 1 9;");
    check.due("the next DAY 0 is not", next.rest(0), 1);
    check.due("no price moved", next.price(0, 0), 5);
  }

  public static void main(String[] args) {
    way();
    pass();
    runBounds();
    aDay();
    chest();
    made();
    round();
    anew();
    slots();
    goesOn();
    ratesBounds();
    ratesNights();
    rest();
    restPrices();
    restTurns();
    check.finish("RunBoundsTest");
  }
}
