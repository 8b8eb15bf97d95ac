import java.lang.reflect.Method;
import java.util.ArrayList;
import java.util.Arrays;
import java.util.List;

/**
 * Each number that a call takes at its least, its greatest and beyond; a refused call and one that only tells
 * change nothing, and another one nothing that the document doesn't say.
 */
public final class RefusedTest {
  private static final String TWO = "rot 0 300;rot 4 50;sort a 3 900 40;sort b 2 500 20;thing t 300 1;thing u 0 0;"
      + "earn a 1 9;earn b 4 20;price t 3 4;want a t 3 3 9;want b u 0 2 5;make t 3 2;make u 0 5;chest b;ill b 4;store t;";
  private static final String FOUR = "rot 5 900;sort a 9 1000 60;sort b 8 0 50;sort c 7 500 40;sort d 6 1 30;"
      + "thing t 0 0;thing u 1000 9;thing v 500 1;store v;earn d 0 20;want d v 0 3 99;want a t 1 1 1;make v 0 9;";
  private static final Check check = new Check();

  /** A call's numbers, each from its least to its greatest, and what it answers beyond. */
  private record Bounds(String name, int refused, int[][] numbers) {
    Method method() {
      for (Method m : RotMoney.class.getDeclaredMethods()) {
        if (m.getName().equals(name)) {
          return m;
        }
      }
      throw new IllegalStateException(name);
    }

    int call(RotMoney x, int[] args) {
      try {
        return (Integer) method().invoke(x, Arrays.stream(args).boxed().toArray());
      } catch (ReflectiveOperationException e) {
        throw new IllegalStateException(name + Arrays.toString(args), e);
      }
    }
  }

  private static Bounds bounds(String name, int refused, int... leastAndMost) {
    int[][] numbers = new int[leastAndMost.length / 2][];
    for (int i = 0; i < numbers.length; i++) {
      numbers[i] = new int[] {leastAndMost[2 * i], leastAndMost[2 * i + 1]};
    }
    return new Bounds(name, refused, numbers);
  }

  private static RotMoney two() {
    RotMoney x = check.town(TWO);
    x.way(0, 3);
    x.way(1, 2);
    x.pass(9);
    x.keep(0);
    x.way(1, 0);
    x.pass(5);
    x.keep(1);
    x.pass(9);
    x.keep(2);
    x.way(0, 0);
    x.pass(3);
    x.rest(0);
    Texts.values(x, "9 1;5 2;");
    Texts.book(x, "a t 3 1 4;b u 0 4 1;");
    Texts.put(x, "rot 6 7;thing z 5 5;sort y 1 2 3;");
    return x;
  }

  /** Its tape is full, its slots are empty, there were no turns, no values and no fault. */
  private static RotMoney four() {
    RotMoney x = check.town(FOUR);
    x.way(3, 4);
    x.pass(8);
    Texts.put(x, "rot 6 7;" + " ".repeat(884) + "rot 5 9;");
    return x;
  }

  private static List<Bounds> tells(int sorts, int things) {
    int s = sorts - 1;
    int t = things - 1;
    List<Bounds> all = new ArrayList<>();
    all.add(bounds("fault", RotMoney.NONE, 0, 1));
    all.add(bounds("earns", RotMoney.RANGE, 0, s, 0, 6));
    all.add(bounds("price", RotMoney.RANGE, 0, t, 0, 6));
    all.add(bounds("made", RotMoney.RANGE, 0, t, 0, 6));
    all.add(bounds("wants", RotMoney.RANGE, 0, s, 0, 6, 0, 2));
    all.add(bounds("night", RotMoney.RANGE, 0, 60, 0, 5, 0, 6));
    all.add(bounds("may", RotMoney.RANGE, 0, s, 0, 6, 0, 60, 0, 5, 0, 47));
    all.add(bounds("best", RotMoney.RANGE, 0, s, 0, 6, 0, 60, 0, 5, 0, 28));
    all.add(bounds("bestAct", RotMoney.RANGE, 0, s, 0, 6, 0, 60, 0, 5, 0, 28));
    all.add(bounds("wayAct", RotMoney.RANGE, 0, 4, 0, s, 0, 6, 0, 60, 0, 5));
    all.add(bounds("run", RotMoney.RANGE, 0, s, 0, 6));
    all.add(bounds("all", RotMoney.NONE, 0, 3));
    all.add(bounds("worthAt", RotMoney.RANGE, 0, 18, 1, 4));
    all.add(bounds("rate", RotMoney.RANGE, 1, 4));
    all.add(bounds("restTurns", RotMoney.RANGE));
    all.add(bounds("two", RotMoney.RANGE, 0, 9, 0, 9, 0, 100, 0, 100, 0, 20, 1, 20, 0, 1));
    all.add(bounds("lend", RotMoney.RANGE, 0, 999, 0, 52, 0, 1000, 0, 1));
    all.add(bounds("early", RotMoney.RANGE, 0, 999, 0, 60, 0, 6));
    all.add(bounds("meet", -1000000, 0, s, 0, (1 << sorts) - 1, 0, 100, 0, 900, 0, 40, 0, 1));
    all.add(bounds("rests", RotMoney.RANGE, 0, 100, 0, 900, 0, 40));
    all.add(bounds("count", RotMoney.NONE, 0, 1));
    return all;
  }

  private static List<Bounds> changes(int sorts, int bytes) {
    List<Bounds> all = new ArrayList<>();
    all.add(bounds("end", RotMoney.NONE, 0, bytes));
    all.add(bounds("way", RotMoney.RANGE, 0, sorts - 1, 0, 4));
    all.add(bounds("pass", RotMoney.RANGE, 0, 70));
    all.add(bounds("keep", RotMoney.RANGE, 0, 2));
    all.add(bounds("take", RotMoney.RANGE, 0, 2));
    all.add(bounds("rest", RotMoney.RANGE, 0, 1));
    return all;
  }

  /** Each number in turn beyond its bounds, the others at their least and at their greatest. */
  private static void beyond(Twins twins, Bounds b) {
    for (int i = 0; i < b.numbers.length; i++) {
      int[] no = {b.numbers[i][0] - 1, b.numbers[i][1] + 1, Integer.MIN_VALUE, Integer.MAX_VALUE};
      for (int k = 0; k < 2 * no.length; k++) {
        int[] args = new int[b.numbers.length];
        for (int j = 0; j < args.length; j++) {
          args[j] = j == i ? no[k / 2] : b.numbers[j][k % 2];
        }
        RotMoney x = twins.one();
        String call = b.name + Arrays.toString(args);
        check.due(call, b.call(x, args), b.refused);
        twins.same(call, x);
      }
    }
  }

  /** Numbers at their bounds, in all ways together, are not refused, but where there is none. */
  private static void within(Twins twins, Bounds b, boolean tells) {
    for (int bits = 0; bits < 1 << b.numbers.length; bits++) {
      int[] args = new int[b.numbers.length];
      for (int j = 0; j < args.length; j++) {
        args[j] = b.numbers[j][bits >> j & 1];
      }
      RotMoney x = twins.one();
      String call = b.name + Arrays.toString(args);
      int got = b.call(x, args);
      check.must(got != b.refused || b.refused == RotMoney.NONE && tells, call + " is not refused");
      if (tells) {
        twins.same(call, x);
      }
    }
  }

  private static void bounds() {
    Twins two = new Twins(check, RefusedTest::two);
    Twins four = new Twins(check, RefusedTest::four);
    check.says("a refused call, one that tells, changes nothing");
    for (Bounds b : tells(2, 2)) {
      beyond(two, b);
      within(two, b, true);
    }
    for (Bounds b : tells(4, 3)) {
      beyond(four, b);
      within(four, b, true);
    }
    for (Bounds b : changes(2, 33)) {
      beyond(two, b);
      within(two, b, false);
    }
    for (Bounds b : changes(4, 900)) {
      beyond(four, b);
      within(four, b, false);
    }
    Twins none = new Twins(check, RotMoney::new);
    for (Bounds b : tells(1, 1)) {
      beyond(none, b);
    }
    for (Bounds b : changes(1, 0)) {
      beyond(none, b);
    }
    toldOthers(two, four);
  }

  private static void toldOthers(Twins two, Twins four) {
    check.says("6: NONE for others");
    int[] others = {-1, 4, 9, 17, 22, 32, 42, 52, 62, 72, 80, Integer.MIN_VALUE, Integer.MAX_VALUE};
    for (int what : others) {
      RotMoney x = two.one();
      check.due("told(" + what + ")", x.told(what), RotMoney.NONE);
      two.same("told(" + what + ")", x);
    }
    int[] more = {24, 34, 44, 54, 63, 73};
    for (int what : more) {
      RotMoney x = four.one();
      check.due("told(" + what + ")", x.told(what), RotMoney.NONE);
      four.same("told(" + what + ")", x);
    }
  }

  private static void refusedFull() {
    Twins four = new Twins(check, RefusedTest::four);
    check.says("2: FULL when there would be more than 900");
    RotMoney full = four.one();
    check.due("feed", full.feed(-1, 0, 1, 2, 3), RotMoney.FULL);
    four.same("feed", full);
    Twins almost = new Twins(check, () -> {
      RotMoney x = four();
      x.end(881);
      return x;
    });
    RotMoney x = almost.one();
    check.due("feed behind 881", x.feed(-1, 0, 1, 2, 3), RotMoney.FULL);
    almost.same("feed", x);
    check.says("22: STATE: it is empty");
    for (int slot = 0; slot < 3; slot++) {
      RotMoney y = four.one();
      check.due("take(" + slot + ")", y.take(slot), RotMoney.STATE);
      four.same("take(" + slot + ")", y);
    }
  }

  private static void refusedTexts() {
    // The tapes are empty: a text that is read to its end, or to a fault, leaves them so.
    Twins two = new Twins(check, () -> {
      RotMoney x = two();
      x.end(0);
      return x;
    });
    String[] towns = {"?", "rot 0 1;sort", "rot 0 901;", "sort z 9 9 9;sort z 9 9 9;", "chest a;",
        "thing a 1 1;thing b 1 1;thing c 1 1;thing d 1 1;"};
    for (String text : towns) {
      check.says("4: NONE with a FAULT (it stays)");
      two.only("town() of " + text, x -> check.due("town() of " + text, Texts.town(x, text), RotMoney.NONE), "fault");
    }
    String[] books = {"?", "a t 3 1 4;a", "a t 3 4 4;", "z t 3 1 4;"};
    for (String text : books) {
      check.says("33: NONE: with a FAULT");
      Twins fine = new Twins(check, () -> {
        RotMoney x = two();
        Texts.book(x, "");
        return x;
      });
      fine.only("book() of " + text, x -> check.due("book() of " + text, Texts.book(x, text), RotMoney.NONE), "fault");
    }
    String[] rows = {"?", "", "8 2;", "8 2;6 3;1 1;", "8 2;6 100;", "8 2;6 3"};
    for (String text : rows) {
      check.says("30: NONE: it is no such row");
      two.only("values() of " + text, x -> check.due("values() of " + text, Texts.values(x, text), RotMoney.NONE));
    }
    check.says("I: each call that reads it empties it");
    Twins full = new Twins(check, RefusedTest::two);
    full.only("town() of ?", x -> Texts.town(x, "?"), "fault", "tape");
    full.only("book() of ?", x -> Texts.book(x, "?"), "fault", "tape");
    full.only("values() of ?", x -> Texts.values(x, "?"), "tape");
  }

  private static void changesAlone() {
    Twins two = new Twins(check, RefusedTest::two);
    check.says("each call changes what the document says, and nothing else");
    two.only("feed", x -> x.feed(0, 0, 0, 0, 0), "tape");
    two.only("end(32)", x -> x.end(32), "tape");
    two.only("end(0)", x -> x.end(0), "tape");
    two.only("end(33), as many as there are", x -> x.end(33));
    two.only("way", x -> x.way(0, 4), "ways");
    two.only("way, the same", x -> x.way(0, 0));
    two.only("pass(0)", x -> x.pass(0));
    two.only("pass(1)", x -> x.pass(1), "run");
    two.only("pass(70)", x -> x.pass(70), "run");
    two.only("anew", x -> x.anew(), "run");
    for (int slot = 0; slot < 3; slot++) {
      int at = slot;
      two.only("keep(" + at + ")", x -> x.keep(at), "slot " + at);
    }
    two.only("take(0)", x -> x.take(0), "run", "ways");
    two.only("take(1)", x -> x.take(1), "run", "ways");
    two.only("keep, then take", x -> {
      x.keep(2);
      x.take(2);
    }, "slot 2");
    two.only("rest(0), at rest", x -> x.rest(0), "turns");
    two.only("rest(0) by other WAYS", x -> {
      x.way(0, 1);
      x.rest(0);
      x.way(0, 0);
    }, "prices", "turns");
    two.only("values", x -> Texts.values(x, "8 2;6 3;"), "values", "tape");
    two.only("book", x -> Texts.book(x, "a t 3 1 4;"), "fault", "tape");
    Twins four = new Twins(check, RefusedTest::four);
    four.only("keep(1)", x -> x.keep(1), "slot 1");
    four.only("rest(1)", x -> x.rest(1), "prices", "turns");
    four.only("rate(4)", x -> x.rate(4));
    four.only("anew", x -> x.anew(), "run");
    four.only("values", x -> Texts.values(x, "8 2;6 3;1 1;9 9;"), "values", "tape");
  }

  public static void main(String[] args) {
    bounds();
    refusedFull();
    refusedTexts();
    changesAlone();
    check.finish("RefusedTest");
  }
}
