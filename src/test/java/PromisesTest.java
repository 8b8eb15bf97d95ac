/** Each promise of the document in turn: what is ordinary, the edges, and what is wrong. */
public final class PromisesTest {
  private static int wrong = 0;
  private static String promise = "";

  private static final String SMALL = "rot 6 100; sort a 10 1000 0; sort b 5 500 20; thing n 500 1;"
      + "thing m 0 0; earn a 0 10; price n 2 4; make n 2 30; want a n 2 2 9; want b m 1 1 30;"
      + "ill b 4; chest b; store n;";

  private static void due(String call, int got, int want) {
    if (got != want) {
      wrong++;
      System.out.println(promise + ": " + call + " answered " + got + ", due is " + want);
    }
  }

  private static RotMoney with(String text) {
    RotMoney x = new RotMoney();
    if (Texts.town(x, text) < 0) {
      wrong++;
      System.out.println(promise + ": no town: " + text + " " + x.fault(0) + " at " + x.fault(1));
    }
    return x;
  }

  private static void faulty(String text, int kind, int place) {
    RotMoney x = new RotMoney();
    due("town of " + text, Texts.town(x, text), RotMoney.NONE);
    due("kind in " + text, x.fault(0), kind);
    due("place in " + text, x.fault(1), place);
  }

  private static void p01NewObject() {
    RotMoney x = new RotMoney();
    due("sorts", x.told(0), 0);
    due("things", x.told(1), 0);
    due("chest", x.told(2), RotMoney.NONE);
    due("stored", x.told(3), RotMoney.NONE);
    for (int d = 0; d < 7; d++) {
      due("loss", x.told(10 + d), 0);
    }
    due("clauses", x.count(0), 0);
    due("tape", x.count(1), 0);
    due("fault", x.fault(0), 0);
    due("no sort", x.earns(0, 0), RotMoney.RANGE);
    due("no thing", x.price(0, 0), RotMoney.RANGE);
    due("slot", x.take(2), RotMoney.STATE);
    due("turns", x.restTurns(), RotMoney.NONE);
    due("days", x.all(1), 0);
    due("constants", RotMoney.NONE * 1000 + RotMoney.RANGE * 100 + RotMoney.FULL * 10 + RotMoney.STATE,
        -1234);
  }

  private static void p02Feed() {
    RotMoney x = new RotMoney();
    // "rot 0 1;" and blanks: the highest byte of each int comes first.
    due("feed", x.feed(0x726f7420, 0x3020313b, 0x20202020, 0x20202020, 0x20202020), 20);
    due("town", x.town(), 1);
    due("loss", x.told(10), 1);
    for (int i = 1; i <= 45; i++) {
      due("feed", x.feed(-1, 0, 0, 0, 0), 20 * i);
    }
    due("900", x.feed(0, 0, 0, 0, 0), RotMoney.FULL);
    due("still 900", x.count(1), 900);
    x.end(880);
    due("880", x.feed(0, 0, 0, 0, 0), 900);
    x.end(881);
    due("881", x.feed(0, 0, 0, 0, 0), RotMoney.FULL);
  }

  private static void p03End() {
    RotMoney x = new RotMoney();
    due("end 0", x.end(0), 0);
    due("end 1", x.end(1), RotMoney.NONE);
    x.feed(0, 0, 0, 0, 0);
    due("end -1", x.end(-1), RotMoney.NONE);
    due("end 21", x.end(21), RotMoney.NONE);
    due("stays", x.count(1), 20);
    due("end 20", x.end(20), 20);
    due("end 7", x.end(7), 7);
    due("end 8", x.end(8), RotMoney.NONE);
    due("left", x.count(1), 7);
  }

  private static void p04Town() {
    RotMoney x = new RotMoney();
    due("empty", Texts.town(x, ""), 0);
    due("blanks", Texts.town(x, " \n "), 0);
    due("close", Texts.town(x, "rot0 1;sort a1 1 1;"), 2);
    due("names of two kinds", Texts.town(x, "sort rot 1 1 1;thing rot 1 1;"), 2);
    due("eight letters, four digits", Texts.town(x, "sort abcdefgh 0099 0000 0060;"), 1);
    due("coins", x.told(40), 60);
    due("small", Texts.town(x, SMALL), 13);
    due("emptied", x.count(1), 0);
    due("clauses", x.count(0), 13);
    x.way(0, 3);
    x.pass(3);
    x.keep(0);
    x.keep(1);
    x.keep(2);
    x.rest(0);
    Texts.values(x, "9 1;5 2;");
    due("fault", Texts.town(x, "rot"), RotMoney.NONE);
    due("emptied with a fault", x.count(1), 0);
    due("town stays", x.count(0), 13);
    due("run stays", x.all(1), 3);
    due("turns stay", x.restTurns() > 0 ? 1 : 0, 1);
    due("way stays", x.way(0, 3), 3);
    due("price stays", x.price(0, 2), 1);
    due("values stay", x.meet(0, 1, 100, 0, 1, 0), 5994);
    due("slot stays", x.take(1), 3);
    due("small again", Texts.town(x, SMALL), 13);
    due("run anew", x.all(1), 0);
    due("coins at first", x.run(1, 0), 20);
    due("way", x.way(0, 3), 1);
    due("price as told", x.price(0, 2), 4);
    due("values 0", x.meet(0, 1, 100, 0, 1, 0), 0);
    due("slot", x.take(0), RotMoney.STATE);
    due("slot", x.take(1), RotMoney.STATE);
    due("slot", x.take(2), RotMoney.STATE);
    due("turns", x.restTurns(), RotMoney.NONE);
    due("all letters and digits", Texts.town(x, "sort azaz 19 280 37;thing z 46 5;earn azaz 6 9;store z;"), 4);
    due("people", x.told(20), 19);
  }

  private static void p05Fault() {
    RotMoney x = with(SMALL);
    due("none", x.fault(0), 0);
    due("no place", x.fault(1), RotMoney.NONE);
    due("another", x.fault(2), RotMoney.NONE);
    due("another", x.fault(-1), RotMoney.NONE);
    Texts.book(x, "a n 9 1 1;");
    due("book's", x.fault(0), 2);
    due("book's place", x.fault(1), 4);
    Texts.values(x, "x");
    due("values() has none", x.fault(0), 2);
    Texts.book(x, "a n 2 1 1;");
    due("gone", x.fault(0), 0);
    due("gone", x.fault(1), RotMoney.NONE);
    syntaxFaults();
    rangeFaults();
    otherFaults();
  }

  private static void syntaxFaults() {
    faulty(";", 1, 0);
    faulty(" 5", 1, 1);
    faulty("rots 1 1;", 1, 0);
    faulty("rot 1 1", 1, 7);
    faulty("rot 1 1  ", 1, 9);
    faulty("rot 1;", 1, 5);
    faulty("rot 1 1 1;", 1, 8);
    faulty("rot a 1;", 1, 4);
    faulty("rot 00001 1;", 1, 4);
    faulty("sort abcdefghi 1 1 1;", 1, 5);
    faulty("sort 1 1 1 1;", 1, 5);
    faulty("rot 1 1;.", 1, 8);
    faulty("rot 1 1;Rot", 1, 8);
    faulty("rot 1\t1;", 1, 5);
    faulty("rot 1 1;\u00ff", 1, 8);
    faulty("rot 1 -1;", 1, 6);
    faulty("sort a 1 1 1;chest;", 1, 18);
  }

  private static void rangeFaults() {
    faulty("rot 7 1;", 2, 4);
    faulty("rot 0 901;", 2, 6);
    faulty("sort a 0 1 1;", 2, 7);
    faulty("sort a 100 1 1;", 2, 7);
    faulty("sort a 1 1001 1;", 2, 9);
    faulty("sort a 1 1 61;", 2, 11);
    faulty("thing t 1001 1;", 2, 8);
    faulty("thing t 1 10;", 2, 10);
    faulty("sort a 1 1 1;earn a 7 1;", 2, 20);
    faulty("sort a 1 1 1;earn a 1 0;", 2, 22);
    faulty("sort a 1 1 1;earn a 1 21;", 2, 22);
    faulty("thing t 1 1;price t 7 1;", 2, 20);
    faulty("thing t 1 1;price t 1 0;", 2, 22);
    faulty("thing t 1 1;price t 1 21;", 2, 22);
    faulty("thing t 1 1;make t 7 1;", 2, 19);
    faulty("thing t 1 1;make t 1 1000;", 2, 21);
    faulty("sort a 1 1 1;thing t 1 1;want a t 7 1 1;", 2, 34);
    faulty("sort a 1 1 1;thing t 1 1;want a t 1 0 1;", 2, 36);
    faulty("sort a 1 1 1;thing t 1 1;want a t 1 4 1;", 2, 36);
    faulty("sort a 1 1 1;thing t 1 1;want a t 1 1 100;", 2, 38);
    faulty("sort a 1 1 1;ill a 0;", 2, 19);
    faulty("sort a 1 1 1;ill a 128;", 2, 19);
    due("all at their bounds", Texts.town(new RotMoney(), "rot 0 0;rot 6 900;sort a 1 0 0;"
        + "sort b 99 1000 60;thing t 0 0;thing u 1000 9;earn a 0 1;earn b 6 20;price t 0 1;"
        + "price t 6 20;make t 0 0;make t 6 999;want a t 0 1 0;want a t 6 3 99;ill a 1;ill b 127;"), 16);
  }

  private static void otherFaults() {
    faulty("rot 1 0;rot 1 0;", 3, 12);
    faulty("sort a 1 1 1;sort a 1 1 1;", 3, 18);
    faulty("thing a 1 1;thing a 1 1;", 3, 18);
    faulty("sort a 1 1 1;earn a 1 1;earn a 1 2;", 3, 31);
    faulty("thing t 1 1;price t 1 5;price t 1 5;", 3, 32);
    faulty("thing t 1 1;make t 1 5;make t 1 5;", 3, 30);
    faulty("sort a 1 1 1;thing t 1 1;thing u 1 1;want a t 1 1 1;want a u 1 1 1;", 3, 61);
    faulty("sort a 1 1 1;ill a 1;ill a 2;", 3, 25);
    faulty("sort a 1 1 1;chest a;chest a;", 3, 21);
    faulty("thing t 1 1;store t;store t;", 3, 20);
    faulty("sort a 1 1 1;sort b 1 1 1;sort c 1 1 1;sort d 1 1 1;sort e 1 1 1;", 4, 52);
    faulty("thing a 1 1;thing b 1 1;thing c 1 1;thing d 1 1;", 4, 36);
    faulty("earn a 1 1;sort a 1 1 1;", 5, 5);
    faulty("thing a 1 1;earn a 1 1;", 5, 17);
    faulty("sort a 1 1 1;price a 1 1;", 5, 19);
    faulty("make t 1 1;", 5, 5);
    faulty("sort a 1 1 1;want a t 1 1 1;", 5, 20);
    faulty("want a t 1 1 1;", 5, 5);
    faulty("ill a 1;", 5, 4);
    faulty("chest a;", 5, 6);
    faulty("store a;", 5, 6);
    // The first come to, though a later one is of a lesser kind.
    faulty("store a;;", 5, 6);
    due("other days and others' days", Texts.town(new RotMoney(), "sort a 1 1 1;sort b 1 1 1;"
        + "thing t 1 1;thing u 1 1;earn a 1 1;earn b 1 1;earn a 2 1;price t 1 1;price u 1 1;make t 1 1;"
        + "make u 1 1;want a t 1 1 1;want b t 1 1 1;want a t 2 1 1;ill a 1;ill b 1;"), 16);
  }

  private static void p06Told() {
    RotMoney x = with("rot 3 77;rot 6 900;sort a 10 1000 0;sort b 5 500 20;ill b 4;thing n 500 1;"
        + "thing m 7 9;chest b;store m;");
    int[][] rows = {{0, 2}, {1, 2}, {2, 1}, {3, 1}, {13, 77}, {16, 900}, {10, 0}, {17, -1}, {20, 10},
        {21, 5}, {22, -1}, {30, 1000}, {31, 500}, {40, 0}, {41, 20}, {50, 0}, {51, 4}, {52, -1},
        {60, 500}, {61, 7}, {62, -1}, {70, 1}, {71, 9}, {72, -1}, {4, -1}, {9, -1}, {80, -1}, {-1, -1},
        {-10, -1}, {-20, -1}, {1000, -1}};
    for (int[] row : rows) {
      due("told " + row[0], x.told(row[0]), row[1]);
    }
    due("stored untold", with("thing n 1 1;thing m 1 1;").told(3), 0);
    due("chest untold", with("sort n 1 1 1;").told(2), RotMoney.NONE);
  }

  private static void p07To10Days() {
    RotMoney x = with(SMALL);
    due("earns", x.earns(0, 0), 10);
    due("earns nothing", x.earns(1, 6), 0);
    due("price", x.price(0, 2), 4);
    due("price untold", x.price(1, 2), 5);
    due("made", x.made(0, 2), 30);
    due("made untold", x.made(0, 3), RotMoney.NONE);
    due("wants", x.wants(1, 1, 0), 1);
    due("units", x.wants(0, 2, 1), 2);
    due("worth", x.wants(1, 1, 2), 30);
    due("wants nothing", x.wants(0, 1, 0), RotMoney.NONE);
    due("no units", x.wants(0, 1, 1), 0);
    due("no worth", x.wants(0, 1, 2), 0);
    int[] bad = {x.earns(2, 0), x.earns(-1, 0), x.earns(0, 7), x.earns(0, -1), x.price(2, 0),
        x.price(-1, 0), x.price(0, 7), x.price(0, -1), x.made(2, 0), x.made(-1, 0), x.made(0, 7),
        x.made(0, -1), x.wants(2, 0, 0), x.wants(-1, 0, 0), x.wants(0, 7, 0), x.wants(0, -1, 0),
        x.wants(0, 0, 3), x.wants(0, 0, -1)};
    for (int i = 0; i < bad.length; i++) {
      due("wrong " + i, bad[i], RotMoney.RANGE);
    }
  }

  private static void p11Night() {
    RotMoney x = with(SMALL);
    due("a tenth", x.night(60, 0, 6), 54);
    due("rounded up", x.night(51, 0, 6), 45);
    due("one", x.night(1, 0, 6), 0);
    due("then the store", x.night(20, 5, 6), 13);
    due("as far as there are", x.night(3, 5, 0), 0);
    due("no loss", x.night(60, 0, 5), 60);
    int[] bad = {x.night(-1, 0, 0), x.night(61, 0, 0), x.night(0, -1, 0), x.night(0, 6, 0),
        x.night(0, 0, -1), x.night(0, 0, 7), new RotMoney().night(5, 1, 0)};
    for (int i = 0; i < bad.length; i++) {
      due("wrong " + i, bad[i], RotMoney.RANGE);
    }
    due("without things", new RotMoney().night(5, 0, 0), 5);
  }

  private static void p12May() {
    // On day 0 three of the stored thing at 4, on day 1 two of another at 3, on day 2 ill.
    RotMoney x = with("sort a 1 1000 0;thing n 0 0;thing m 0 0;price n 0 4;price m 1 3;price n 1 7;"
        + "want a n 0 3 9;want a m 1 2 9;want a n 2 3 9;ill a 4;");
    int[][] rows = {{0, 12, 0, 3, 1}, {0, 11, 0, 3, 0}, {0, 0, 3, 12, 1}, {0, 0, 2, 12, 0},
        {0, 60, 3, 13, 0}, {0, 60, 3, 10, 0}, {0, 60, 3, 9, 1}, {0, 12, 0, 33, 1}, {0, 11, 0, 33, 0},
        {0, 60, 5, 16, 0}, {0, 60, 5, 20, 1}, {0, 60, 5, 36, 0}, {0, 60, 5, 40, 1}, {0, 60, 3, 32, 1},
        {0, 60, 4, 32, 0}, {0, 60, 0, 47, 0}, {1, 60, 5, 4, 0}, {1, 60, 0, 2, 1}, {1, 60, 0, 3, 0},
        {1, 13, 0, 18, 1}, {1, 12, 0, 18, 0}, {2, 60, 5, 1, 0}, {2, 60, 0, 16, 0}, {2, 0, 5, 12, 1},
        {3, 60, 5, 0, 1}, {3, 60, 5, 4, 0}, {3, 60, 0, 1, 0}, {3, 10, 3, 32, 1}};
    for (int[] r : rows) {
      due("may " + java.util.Arrays.toString(r), x.may(0, r[0], r[1], r[2], r[3]), r[4]);
    }
    int[] bad = {x.may(1, 0, 0, 0, 0), x.may(-1, 0, 0, 0, 0), x.may(0, 7, 0, 0, 0),
        x.may(0, -1, 0, 0, 0), x.may(0, 0, 61, 0, 0), x.may(0, 0, -1, 0, 0), x.may(0, 0, 0, 6, 0),
        x.may(0, 0, 0, -1, 0), x.may(0, 0, 0, 0, 48), x.may(0, 0, 0, 0, -1)};
    for (int i = 0; i < bad.length; i++) {
      due("wrong " + i, bad[i], RotMoney.RANGE);
    }
    RotMoney bare = with("sort a 1 1 1;");
    due("nothing to store", bare.may(0, 0, 60, 0, 16), 0);
    due("nothing", bare.may(0, 0, 60, 0, 0), 1);
  }

  private static void p13And14Best() {
    // Coins of day 0 are worth 2 a unit, or, kept, 9 a unit on day 1; he earns 5 ahead of each.
    RotMoney x = with("sort a 1 500 0;thing n 0 0;earn a 0 5;earn a 1 5;want a n 0 1 5;want a n 1 2 9;");
    due("one day", x.best(0, 0, 0, 0, 1), 5);
    due("its act", x.bestAct(0, 0, 0, 0, 1), 1);
    // Eat now: 5 and half of 9 (cut): 9. Keep: half of 18: 9. Alike: the lesser number, nothing.
    due("two days", x.best(0, 0, 0, 0, 2), 9);
    due("the least of alike acts", x.bestAct(0, 0, 0, 0, 2), 0);
    due("earned ahead", x.best(0, 1, 5, 0, 1), 18);
    due("from the store", x.bestAct(0, 1, 0, 1, 1), 5);
    due("above 60", x.best(0, 0, 60, 0, 2), 14);
    due("no days", x.best(0, 0, 60, 5, 0), 0);
    due("no act", x.bestAct(0, 0, 60, 5, 0), RotMoney.NONE);
    RotMoney rots = with("rot 0 900;sort a 1 1000 60;thing n 0 0;price n 0 20;price n 1 20;want a n 1 3 9;");
    due("stores ahead of rot", rots.best(0, 0, 60, 0, 2), 18);
    due("two units", rots.bestAct(0, 0, 60, 0, 2), 32);
    due("day 6, then day 0", rots.best(0, 6, 60, 0, 3), 27);
    // Prices as they are after rest(): nobody buys what is made, so that it falls to 1.
    RotMoney moved = with("sort a 1 1000 5;thing n 0 0;make n 0 9;want a n 0 3 9;");
    due("one", moved.best(0, 0, 5, 0, 1), 9);
    moved.rest(0);
    due("three", moved.best(0, 0, 5, 0, 1), 27);
    RotMoney late = with("sort a 1 1000 0;thing n 0 0;earn a 0 5;want a n 6 1 1;");
    due("28 days, four times", late.best(0, 0, 0, 0, 28), 4);
    int[] bad = {x.best(1, 0, 0, 0, 0), x.best(-1, 0, 0, 0, 1), x.best(0, 7, 0, 0, 1),
        x.best(0, -1, 0, 0, 1), x.best(0, 0, 61, 0, 1), x.best(0, 0, -1, 0, 1), x.best(0, 0, 0, 6, 1),
        x.best(0, 0, 0, -1, 1), x.best(0, 0, 0, 0, 29), x.best(0, 0, 0, 0, -1),
        x.bestAct(1, 0, 0, 0, 0), x.bestAct(-1, 0, 0, 0, 1), x.bestAct(0, 7, 0, 0, 1),
        x.bestAct(0, -1, 0, 0, 1), x.bestAct(0, 0, 61, 0, 1), x.bestAct(0, 0, -1, 0, 1),
        x.bestAct(0, 0, 0, 6, 1), x.bestAct(0, 0, 0, -1, 1), x.bestAct(0, 0, 0, 0, 29),
        x.bestAct(0, 0, 0, 0, -1)};
    for (int i = 0; i < bad.length; i++) {
      due("wrong " + i, bad[i], RotMoney.RANGE);
    }
  }

  private static void p15WayAct() {
    RotMoney x = with("rot 1 10;sort a 1 1000 0;thing n 0 0;thing m 0 0;price n 0 4;price n 1 4;"
        + "earn a 0 20;want a n 0 3 9;want a n 1 3 9;want a m 2 2 9;want a n 3 2 5;ill a 8;");
    int[][] rows = {
        {0, 0, 8, 5, 2 + 4}, {0, 0, 60, 5, 3}, {0, 0, 60, 4, 3 + 16}, {0, 0, 60, 0, 3 + 32},
        {0, 0, 19, 0, 3 + 16}, {0, 2, 12, 3, 2}, {0, 2, 20, 3, 2 + 32}, {0, 3, 60, 1, 4},
        {0, 3, 60, 5, 8}, {0, 4, 60, 0, 32}, {1, 0, 8, 5, 2 + 4}, {1, 0, 60, 0, 3}, {1, 4, 60, 0, 0},
        {2, 0, 60, 2, 1 + 8}, {2, 0, 60, 0, 3}, {2, 1, 60, 2, 1 + 8 + 32}, {2, 1, 60, 5, 12 + 32},
        {2, 1, 4, 2, 1 + 8}, {2, 1, 8, 5, 12 + 32}, {2, 4, 60, 0, 0}, {4, 0, 60, 5, 0}};
    for (int[] r : rows) {
      due("wayAct " + java.util.Arrays.toString(r), x.wayAct(r[0], 0, r[1], r[2], r[3]), r[4]);
    }
    // What he earns on day 0 does not come once more: two coins buy nothing at 4.
    due("best, without earning", x.wayAct(3, 0, 0, 2, 0), 0);
    due("bestAct, with earning", x.bestAct(0, 0, 2, 0, 1), 3);
    due("best looks seven days on", x.wayAct(3, 0, 3, 60, 0), 0);
    int[] bad = {x.wayAct(5, 0, 0, 0, 0), x.wayAct(-1, 0, 0, 0, 0), x.wayAct(0, 1, 0, 0, 0),
        x.wayAct(0, -1, 0, 0, 0), x.wayAct(0, 0, 7, 0, 0), x.wayAct(0, 0, -1, 0, 0),
        x.wayAct(0, 0, 0, 61, 0), x.wayAct(0, 0, 0, -1, 0), x.wayAct(0, 0, 0, 0, 6),
        x.wayAct(0, 0, 0, 0, -1)};
    for (int i = 0; i < bad.length; i++) {
      due("wrong " + i, bad[i], RotMoney.RANGE);
    }
    due("notes lose, however little",
        with("rot 1 1;sort a 1 0 0;thing n 0 0;").wayAct(2, 0, 1, 60, 0), 32);
    // Worth on the seventh day counts (store for it), on the eighth it does not.
    RotMoney far = with("rot 0 900;sort a 1 1000 0;thing n 0 0;thing m 0 0;want a n 6 1 9;");
    due("seventh", far.wayAct(3, 0, 0, 5, 0), 16);
    RotMoney further = with("rot 1 900;sort a 1 1000 0;thing n 0 0;want a n 1 1 9;");
    due("eighth", further.wayAct(3, 0, 2, 5, 0), 0);
  }

  private static void p16Way() {
    RotMoney x = with(SMALL);
    due("keep at first", x.way(0, 4), 1);
    due("then fast", x.way(0, 0), 4);
    due("another", x.way(1, 3), 1);
    due("wrong", x.way(0, 5), RotMoney.RANGE);
    due("wrong", x.way(0, -1), RotMoney.RANGE);
    due("wrong", x.way(2, 0), RotMoney.RANGE);
    due("wrong", x.way(-1, 0), RotMoney.RANGE);
    due("stays", x.way(0, 0), 0);
    RotMoney fast = with("sort a 1 1 9;thing t 0 0;want a t 0 1 9;");
    fast.way(0, 4);
    fast.pass(1);
    due("ate nothing", fast.run(0, 4), 0);
  }

  private static void p17To20Run() {
    // On day 0 a would eat three of t at 2 and store two more, but nine are made for two people.
    RotMoney x = with("rot 0 100;sort a 2 0 30;sort b 3 0 7;thing t 500 1;price t 0 2;make t 0 9;"
        + "want a t 0 3 9;want b t 0 2 5;earn b 1 4;chest b;");
    x.way(0, 0);
    x.way(1, 0);
    due("a day", x.pass(1), 1);
    // Nine for two: four each, three eaten, one stored: 8 coins. One is left: none for three.
    due("a's coins: 30 - 8 = 22, less 3, less 1", x.run(0, 0), 18);
    due("a's store: half of one is none", x.run(0, 1), 1);
    due("a paid", x.run(0, 2), 16);
    due("a's stamps", x.run(0, 3), 6);
    due("a ate", x.run(0, 4), 54);
    due("a lost", x.run(0, 5), 0);
    due("b's coins", x.run(1, 0), 6);
    due("b paid", x.run(1, 2), 0);
    due("b's stamps", x.run(1, 3), 3);
    due("chest", x.all(0), 9);
    due("bought", x.all(3), 8);
    // 16 paid; held: 2 times 22 and 3 times 7.
    due("round", x.all(2), 16000 / 65);
    due("a week", x.pass(7), 8);
    due("days", x.all(1), 8);
    // On day 7: nine coins in the chest over three.
    due("b got", x.run(1, 6), 9);
    due("a got", x.run(0, 6), 0);
    due("wrong", x.pass(71), RotMoney.RANGE);
    due("wrong", x.pass(-1), RotMoney.RANGE);
    due("none", x.pass(0), 8);
    due("most", x.pass(70), 78);
    due("wrong", x.run(2, 0), RotMoney.RANGE);
    due("wrong", x.run(-1, 0), RotMoney.RANGE);
    due("wrong", x.run(0, 7), RotMoney.RANGE);
    due("wrong", x.run(0, -1), RotMoney.RANGE);
    due("other", x.all(4), RotMoney.NONE);
    due("other", x.all(-1), RotMoney.NONE);
    due("anew", x.anew(), 78);
    due("no days", x.all(1), 0);
    due("no chest", x.all(0), 0);
    due("none held", x.all(2), RotMoney.NONE);
    due("none bought", x.all(3), 0);
    due("coins", x.run(0, 0), 30);
    due("ways stay", x.way(0, 0), 0);
    for (int what = 1; what < 7; what++) {
      due("fact", x.run(0, what), 0);
    }
    moreRuns();
  }

  private static void moreRuns() {
    RotMoney x = with("sort a 1 0 60;thing t 500 0;price t 0 1;price t 1 1;price t 2 1;");
    x.way(0, 0);
    x.pass(2);
    due("4 in store: two are lost on the second night", x.run(0, 5), 1 + 1);
    due("store", x.run(0, 1), 2);
    RotMoney full = with("sort a 2 0 55;earn a 0 20;earn a 1 3;");
    full.pass(2);
    due("above 60", full.run(0, 0), 60);
    RotMoney chest = with("rot 0 900;sort a 1 0 59;sort b 7 0 60;chest a;earn b 1 20;earn b 2 20;earn b 3 20;");
    chest.pass(7);
    due("stamps: 54 and 7 times 54", chest.all(0), 432);
    chest.pass(1);
    due("got all", chest.run(0, 6), 432);
    due("but holds 60 at most", chest.run(0, 0), 6);
    due("stamps of the eighth day alone", chest.all(0), 54 + 7 * 54);
    RotMoney nobody = with("rot 0 900;sort a 1 0 60;");
    nobody.pass(8);
    due("all stays", nobody.all(0), 54 + 6);
    due("nobody got", nobody.run(0, 6), 0);
    // The price is of the cut act; from the store he eats as he meant to.
    RotMoney cut = with("sort a 2 0 60;thing t 0 0;price t 0 1;price t 1 1;make t 1 3;want a t 1 3 9;");
    cut.way(0, 0);
    cut.pass(2);
    due("two bought for the store, then one eaten", cut.run(0, 4), 2 * 9);
    due("paid", cut.run(0, 2), 2 * 2 + 2);
    RotMoney later = with("sort a 1 0 60;sort b 1 0 60;thing t 0 0;make t 0 3;want a t 0 2 1;want b t 0 2 1;");
    later.pass(1);
    due("first", later.run(0, 4), 2);
    due("second gets what is left", later.run(1, 4), 1);
    due("once more the next week", later.pass(7), 8);
    due("first", later.run(0, 4), 4);
    due("second", later.run(1, 4), 2);
  }

  private static void p21And22Slots() {
    RotMoney x = with(SMALL);
    x.way(0, 0);
    x.pass(3);
    int coins = x.run(0, 0);
    int round = x.all(2);
    due("keep", x.keep(2), 3);
    x.way(0, 4);
    x.pass(9);
    due("keep another", x.keep(0), 12);
    due("take", x.take(2), 3);
    due("coins", x.run(0, 0), coins);
    due("round", x.all(2), round);
    due("way", x.way(0, 1), 0);
    x.pass(1);
    due("a slot stays as it was", x.take(2), 3);
    due("its way, too", x.way(0, 0), 0);
    due("the other", x.take(0), 12);
    due("empty", x.take(1), RotMoney.STATE);
    due("wrong", x.take(3), RotMoney.RANGE);
    due("wrong", x.take(-1), RotMoney.RANGE);
    due("wrong", x.keep(3), RotMoney.RANGE);
    due("wrong", x.keep(-1), RotMoney.RANGE);
    x.anew();
    due("kept over anew", x.take(0), 12);
  }

  private static void p23And24Rates() {
    // Who stores ahead of the night eats on day 1; at no loss he would eat what he keeps coins for.
    RotMoney x = with("rot 0 1;sort a 3 1000 20;thing n 0 0;price n 1 10;want a n 1 2 9;");
    due("at 0 he has 20", x.worthAt(0, 1), 3 * 18);
    due("at 50 he has 19", x.worthAt(1, 1), 3 * 9);
    due("at 900 he has 2", x.worthAt(18, 1), 0);
    due("the rate", x.rate(1), 0);
    due("told stays", x.told(10), 1);
    due("run stays", x.all(1), 0);
    x.way(0, 2);
    // STORE buys two on day 0 if notes lose then, however little, and none at a rate of 0.
    due("no loss, no store", x.worthAt(0, 1), 3 * 18);
    due("a loss, a store", x.worthAt(18, 1), 3 * 18);
    RotMoney y = with("rot 0 1;sort a 3 1000 20;thing n 0 0;price n 1 20;want a n 1 2 9;");
    y.way(0, 2);
    due("at 0", y.worthAt(0, 1), 27);
    due("at 50", y.worthAt(1, 1), 54);
    due("least of alike ones", y.rate(1), 1);
    due("two weeks: 9 coins are left, which buy one more", y.worthAt(1, 2), 54 + 27);
    due("nights told 0 stay so", with("rot 0 0;sort a 1 0 20;thing n 0 0;want a n 1 3 9;").worthAt(18, 1), 27);
    due("without sorts", new RotMoney().rate(4), 0);
    // 54 of a's 60 coins buy b three in the second week; less than 900 leaves b too few.
    RotMoney most = with("rot 6 1;sort a 1 0 60;sort b 1 0 0;thing t 0 0;price t 0 18;want b t 0 3 9;chest b;");
    due("the greatest rate", most.rate(2), 18);
    due("its worth", most.worthAt(18, 2), 27);
    due("850", most.worthAt(17, 2), 18);
    due("a week has one day 0 alone", most.worthAt(18, 1), 0);
    due("50: three coins", most.worthAt(1, 2), 0);
    RotMoney steps = with("rot 6 1;sort a 1 0 60;sort b 1 0 0;thing t 0 0;price t 0 3;want b t 0 1 9;chest b;");
    due("50 is enough", steps.rate(2), 1);
    RotMoney weeks = with("sort a 2 0 0;thing t 0 0;earn a 6 5;want a t 6 1 9;");
    due("one week", weeks.worthAt(0, 1), 18);
    due("four weeks", weeks.worthAt(0, 4), 72);
    int[] bad = {x.worthAt(19, 1), x.worthAt(-1, 1), x.worthAt(0, 0), x.worthAt(0, 5), x.rate(0),
        x.rate(5)};
    for (int i = 0; i < bad.length; i++) {
      due("wrong " + i, bad[i], RotMoney.RANGE);
    }
  }

  private static void p25And26Rest() {
    RotMoney x = with("sort a 1 0 60;thing n 0 0;make n 0 1;want a n 0 3 9;make n 1 0;");
    // He buys 3 till they cost 21; two or three until 20: more than one is made, so up to 20.
    due("at rest", x.rest(0), 1);
    due("price", x.price(0, 0), 20);
    due("turns: 15 up, one still", x.restTurns(), 16);
    due("none made, none bought", x.price(0, 1), 5);
    due("from there", x.rest(0), 1);
    due("one turn", x.restTurns(), 1);
    due("as told", x.rest(1), 1);
    due("again", x.restTurns(), 16);
    due("wrong", x.rest(2), RotMoney.RANGE);
    due("wrong", x.rest(-1), RotMoney.RANGE);
    due("turns stay", x.restTurns(), 16);
    due("run stays", x.all(1), 0);
    // With 10 coins: two at 5, one at 6: never just what is made.
    RotMoney swings = with("sort a 2 0 10;thing n 0 0;make n 0 3;want a n 0 3 9;");
    due("never", swings.rest(0), 0);
    due("sixty", swings.restTurns(), 60);
    due("an even number of turns", swings.price(0, 0), 5);
    // What is made doesn't bound what is bought in a turn.
    RotMoney none = with("sort a 1 0 20;thing n 0 0;make n 0 0;want a n 0 1 9;");
    none.rest(0);
    due("up", none.price(0, 0), 20);
    RotMoney fewer = with("sort a 1 0 20;thing n 0 0;make n 0 9;");
    due("down", fewer.rest(0), 1);
    due("to 1", fewer.price(0, 0), 1);
    due("in 4 turns, and one", fewer.restTurns(), 5);
    RotMoney stores = with("sort a 1 0 20;thing n 0 0;make n 0 2;");
    stores.way(0, 0);
    stores.rest(0);
    due("what is stored is bought, too", stores.restTurns(), 1);
  }

  private static void p27Two() {
    RotMoney x = new RotMoney();
    due("one of each, a day", x.two(1, 1, 50, 60, 1, 1, 0), 600);
    due("the other", x.two(1, 1, 50, 60, 1, 1, 1), 1);
    due("alike: the note", x.two(1, 1, 60, 60, 1, 1, 1), 0);
    // Two days to go, r 2: the note is lost behind the first try.
    due("note first", x.two(1, 1, 40, 60, 2, 2, 0), 1000);
    due("it goes first", x.two(1, 1, 40, 60, 2, 2, 1), 0);
    // Else it keeps: the other first, 600 and (60: 400, 40: 600) 480.
    due("no loss", x.two(1, 1, 40, 60, 2, 20, 0), 1080);
    due("cut", x.two(1, 0, 33, 0, 2, 20, 0), (33 * 1000 + 67 * 330) / 100);
    due("lost on the second last", x.two(1, 0, 50, 0, 2, 1, 0), 500);
    due("no days", x.two(9, 9, 100, 100, 0, 1, 0), 0);
    due("no days", x.two(9, 9, 100, 100, 0, 1, 1), RotMoney.NONE);
    due("neither", x.two(0, 0, 100, 100, 9, 1, 0), 0);
    due("neither", x.two(0, 0, 100, 100, 9, 1, 1), RotMoney.NONE);
    due("most", x.two(9, 9, 100, 100, 20, 20, 0), 17000);
    int[] bad = {x.two(-1, 0, 0, 0, 0, 1, 0), x.two(10, 0, 0, 0, 0, 1, 0), x.two(0, -1, 0, 0, 0, 1, 0),
        x.two(0, 10, 0, 0, 0, 1, 0), x.two(0, 0, -1, 0, 0, 1, 0), x.two(0, 0, 101, 0, 0, 1, 0),
        x.two(0, 0, 0, -1, 0, 1, 0), x.two(0, 0, 0, 101, 0, 1, 0), x.two(0, 0, 0, 0, -1, 1, 0),
        x.two(0, 0, 0, 0, 21, 1, 0), x.two(0, 0, 0, 0, 0, 0, 0), x.two(0, 0, 0, 0, 0, 21, 0),
        x.two(0, 0, 0, 0, 0, 1, -1), x.two(0, 0, 0, 0, 0, 1, 2)};
    for (int i = 0; i < bad.length; i++) {
      due("wrong " + i, bad[i], RotMoney.RANGE);
    }
  }

  private static void p28And29Lending() {
    RotMoney x = with("rot 0 100;rot 6 10;");
    due("lent", x.lend(99, 2, 100, 0), 80);
    due("no weeks", x.lend(999, 0, 1000, 0), 999);
    due("all lost", x.lend(999, 1, 1000, 0), 0);
    due("held: 99 - 10 - 1", x.lend(99, 1, 100, 1), 88);
    due("held: 88 - 9 - 1", x.lend(99, 2, 0, 1), 78);
    due("held for a year", x.lend(999, 52, 0, 1), 0);
    due("lent for a year", x.lend(999, 52, 0, 0), 999);
    due("early: the first night", x.early(90, 1, 0), 100);
    due("early: none", x.early(90, 0, 0), 90);
    due("early: from day 1 six nights", x.early(99, 6, 1), 100);
    due("early: from day 1 five nights", x.early(99, 5, 1), 99);
    due("early: days 6 and 0", x.early(90, 2, 6), 102);
    due("early: nothing", x.early(0, 60, 0), 0);
    due("early: of one note one stamp", with("rot 0 1;").early(1, 1, 0), 2);
    due("early: too few", x.early(900, 1, 0), RotMoney.NONE);
    due("early: just", x.early(899, 1, 0), 999);
    due("early: 999", x.early(999, 0, 0), 999);
    int[] bad = {x.lend(-1, 0, 0, 0), x.lend(1000, 0, 0, 0), x.lend(0, -1, 0, 0), x.lend(0, 53, 0, 0),
        x.lend(0, 0, -1, 0), x.lend(0, 0, 1001, 1), x.lend(0, 0, 0, -1), x.lend(0, 0, 0, 2),
        x.early(-1, 0, 0), x.early(1000, 0, 0), x.early(0, -1, 0), x.early(0, 61, 0), x.early(0, 0, -1),
        x.early(0, 0, 7)};
    for (int i = 0; i < bad.length; i++) {
      due("wrong " + i, bad[i], RotMoney.RANGE);
    }
  }

  private static void p30Values() {
    RotMoney x = with("sort a 1 1 1;sort b 1 1 1;");
    String[] bad = {"1 1;", "1 1;1 1;1 1;", "1 1;1 1", "1 1;1 100;", "100 1;1 1;", "1 1;a 1;", "1 1 1;1 1;",
        "1 1;1;", "", "00001 1;1 1;", "1 1;1 1;.", "1 1;1 1;;"};
    for (String row : bad) {
      due("row " + row, Texts.values(x, row), RotMoney.NONE);
      due("emptied", x.count(1), 0);
      due("stays 0", x.meet(0, 3, 100, 0, 1, 0), 0);
    }
    due("row", Texts.values(x, " 0099\n1;2 3;\n"), 1);
    due("emptied", x.count(1), 0);
    due("worth", x.meet(0, 3, 100, 0, 1, 0), 99000);
    due("cost", x.meet(1, 3, 100, 0, 1, 1), -3000);
    due("no sorts", new RotMoney().values(), 1);
    due("no sorts", Texts.values(new RotMoney(), "1 1;"), RotMoney.NONE);
  }

  private static void p31Meet() {
    RotMoney x = with("sort a 2 1 1;sort b 1 1 1;");
    Texts.values(x, "9 1;5 2;");
    due("nothing at 0", x.meet(0, 3, 50, 0, 0, 0), 0);
    due("nothing at 0", x.meet(0, 3, 50, 0, 0, 1), 0);
    // MET: 500 times 2 over 3: 333.
    due("with", x.meet(0, 1, 50, 0, 1, 0), 2997);
    due("with, less a tenth (cut)", x.meet(0, 1, 50, 100, 1, 0), 2997 - 299);
    due("without", x.meet(0, 1, 50, 0, 1, 1), -500);
    // (333 (9000 - 500) + 667 * 2997) / 1000.
    due("with, two days", x.meet(0, 1, 50, 0, 2, 0), (333 * 8500 + 667 * 2997) / 1000);
    due("without, two days", x.meet(0, 1, 50, 0, 2, 1), (500 * 1997 - 500 * 500) / 1000);
    due("who takes none", x.meet(1, 1, 50, 0, 1, 0), 1665);
    due("who takes none", x.meet(1, 1, 50, 0, 40, 1), 0);
    due("towards 0", x.meet(0, 1, 1, 0, 2, 1), (10 * (54 - 1000) - 990 * 10) / 1000);
    due("nobody takes", x.meet(0, 0, 100, 0, 40, 0), 0);
    int[] bad = {x.meet(2, 0, 0, 0, 0, 0), x.meet(-1, 0, 0, 0, 0, 0), x.meet(0, 4, 0, 0, 0, 0),
        x.meet(0, -1, 0, 0, 0, 0), x.meet(0, 0, 101, 0, 0, 0), x.meet(0, 0, -1, 0, 0, 0),
        x.meet(0, 0, 0, 901, 0, 0), x.meet(0, 0, 0, -1, 0, 0), x.meet(0, 0, 0, 0, 41, 0),
        x.meet(0, 0, 0, 0, -1, 0), x.meet(0, 0, 0, 0, 0, 2), x.meet(0, 0, 0, 0, 0, -1),
        new RotMoney().meet(0, 0, 0, 0, 0, 0)};
    for (int i = 0; i < bad.length; i++) {
      due("wrong " + i, bad[i], -1000000);
    }
  }

  private static void p32Rests() {
    RotMoney x = with("sort a 10 1 1;sort b 5 1 1;");
    due("no costs: all take", x.rests(50, 0, 5), 8);
    Texts.values(x, "9 1;5 2;");
    due("none or all", x.rests(100, 0, 1), 9);
    due("no days", x.rests(100, 0, 0), 1);
    // Of one sort: at t 1 WITH is 1000 (met by all), WITHOUT -1000: 2000 is just its cost.
    RotMoney one = with("sort a 1 1 1;");
    Texts.values(one, "1 1;");
    due("at least", one.rests(100, 0, 1), 3);
    Texts.values(one, "1 2;");
    due("3000 is at least 2000", one.rests(100, 0, 1), 3);
    Texts.values(one, "0 1;");
    due("1000 is at least 1000", one.rests(100, 0, 1), 3);
    due("990 is less", one.rests(99, 0, 1), 1);
    due("no sorts", new RotMoney().rests(50, 0, 5), 1);
    int[] bad = {x.rests(-1, 0, 0), x.rests(101, 0, 0), x.rests(0, -1, 0), x.rests(0, 901, 0),
        x.rests(0, 0, -1), x.rests(0, 0, 41)};
    for (int i = 0; i < bad.length; i++) {
      due("wrong " + i, bad[i], RotMoney.RANGE);
    }
  }

  private static void p33Book() {
    RotMoney x = with("rot 1 100;sort a 1 1 1;thing t 1 1;thing u 1 1;want a t 0 2 9;want a t 1 2 9;");
    due("empty", Texts.book(x, ""), RotMoney.FULL);
    due("none lost", Texts.book(x, "a t 0 2 9;a t 1 1 10;"), RotMoney.FULL);
    due("emptied", x.count(1), 0);
    due("too dear", Texts.book(x, "a t 0 1 9;a t 0 1 10;a t 0 3 1;"), 1);
    due("too many", Texts.book(x, "a t 0 3 1;"), 0);
    due("another thing", Texts.book(x, "a u 0 1 1;"), 0);
    due("another day", Texts.book(x, "a t 2 1 1;"), 0);
    due("notes lose, but not so much", Texts.book(x, "a t 1 1 11;"), 0);
    due("notes lose, but too many", Texts.book(x, "a t 1 3 9;"), 0);
    // 98000 against 99 times 990 and 99 times 989.
    RotMoney edge = with("rot 1 10;rot 2 11;sort a 1 1 1;thing t 1 1;want a t 1 2 98;want a t 2 2 98;");
    due("just not enough", Texts.book(edge, "a t 1 1 99;"), 0);
    due("enough", Texts.book(edge, "a t 2 1 99;"), RotMoney.FULL);
    due("who buys of two", Texts.book(with("sort a 1 1 1;sort b 1 1 1;thing t 1 1;want b t 1 2 9;"),
        "b t 1 1 9;a t 1 1 9;"), 1);
    String[] texts = {"a t 0 3 1;a", "b t 0 1 1;", "a v 0 1 1;", "a t 7 1 1;", "a t 0 0 1;", "a t 0 4 1;",
        "a t 0 1 0;", "a t 0 1 100;", "a t 0 1 1", "a t 0 1 1 1;", ";", "1", "a t 0 1 00001;"};
    int[] kinds = {1, 5, 5, 2, 2, 2, 2, 2, 1, 1, 1, 1, 1};
    int[] places = {11, 0, 2, 4, 6, 6, 8, 8, 9, 10, 0, 0, 8};
    for (int i = 0; i < texts.length; i++) {
      due("book " + texts[i], Texts.book(x, texts[i]), RotMoney.NONE);
      due("kind in " + texts[i], x.fault(0), kinds[i]);
      due("place in " + texts[i], x.fault(1), places[i]);
      due("emptied", x.count(1), 0);
    }
    due("town stays", x.count(0), 6);
  }

  private static void p34Count() {
    RotMoney x = with("rot 1 1; rot 2 1;");
    due("clauses", x.count(0), 2);
    due("bytes", x.count(1), 0);
    x.feed(0, 0, 0, 0, 0);
    due("bytes", x.count(1), 20);
    due("other", x.count(2), RotMoney.NONE);
    due("other", x.count(-1), RotMoney.NONE);
    Texts.town(x, "x");
    due("clauses stay", x.count(0), 2);
  }

  public static void main(String[] args) {
    Runnable[] tests = {PromisesTest::p01NewObject, PromisesTest::p02Feed, PromisesTest::p03End,
        PromisesTest::p04Town, PromisesTest::p05Fault, PromisesTest::p06Told, PromisesTest::p07To10Days,
        PromisesTest::p11Night, PromisesTest::p12May, PromisesTest::p13And14Best,
        PromisesTest::p15WayAct, PromisesTest::p16Way, PromisesTest::p17To20Run,
        PromisesTest::p21And22Slots, PromisesTest::p23And24Rates, PromisesTest::p25And26Rest,
        PromisesTest::p27Two, PromisesTest::p28And29Lending, PromisesTest::p30Values,
        PromisesTest::p31Meet, PromisesTest::p32Rests, PromisesTest::p33Book, PromisesTest::p34Count};
    String[] names = {"1", "2", "3", "4", "5", "6", "7 to 10", "11", "12", "13, 14", "15", "16", "17 to 20",
        "21, 22", "23, 24", "25, 26", "27", "28, 29", "30", "31", "32", "33", "34"};
    for (int i = 0; i < tests.length; i++) {
      promise = "promise " + names[i];
      tests[i].run();
    }
    System.out.println(wrong == 0 ? "all promises hold" : wrong + " answers are not as due");
    if (wrong != 0) {
      System.exit(1);
    }
  }
}
