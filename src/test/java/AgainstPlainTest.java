import java.lang.reflect.InvocationTargetException;
import java.lang.reflect.Method;
import java.util.ArrayList;
import java.util.Arrays;
import java.util.HashMap;
import java.util.List;
import java.util.Map;
import java.util.Random;

/** Runs of calls by chance, the same in each run of the tests, on RotMoney and on Plain. */
public final class AgainstPlainTest {
  private static final int RUNS = 700;
  private static final String[] SORT_NAMES = {"a", "b", "rot", "abcdefgh", "sort", "x"};
  private static final String[] THING_NAMES = {"n", "a", "store", "grain", "milk"};

  private final Random chance;
  private final RotMoney x = new RotMoney();
  private final Plain plain = new Plain();
  private final List<String> calls = new ArrayList<>();
  private final List<String> sorts = new ArrayList<>();
  private final List<String> things = new ArrayList<>();
  private static final Map<String, Method> REAL = methods(RotMoney.class);
  private static final Map<String, Method> DUE = methods(Plain.class);
  private int left = 500;
  private String wrong;

  private AgainstPlainTest(long seed) {
    chance = new Random(seed);
  }

  private static Map<String, Method> methods(Class<?> type) {
    Map<String, Method> found = new HashMap<>();
    for (Method m : type.getDeclaredMethods()) {
      if (java.lang.reflect.Modifier.isPublic(m.getModifiers())) {
        m.setAccessible(true);
        found.put(m.getName(), m);
      }
    }
    return found;
  }

  private int call(String name, int... args) {
    if (wrong != null || left-- <= 0) {
      return 0;
    }
    Object[] boxed = Arrays.stream(args).boxed().toArray();
    try {
      int got = (Integer) REAL.get(name).invoke(x, boxed);
      int due = (Integer) DUE.get(name).invoke(plain, boxed);
      String row = name + Arrays.toString(args) + " = " + got;
      calls.add(row);
      if (got != due) {
        wrong = row + ", due is " + due;
      }
      return got;
    } catch (InvocationTargetException e) {
      wrong = name + Arrays.toString(args) + " threw " + e.getCause();
      e.getCause().printStackTrace(System.out);
    } catch (IllegalAccessException e) {
      throw new IllegalStateException(e);
    }
    return 0;
  }

  private int upTo(int n) {
    return chance.nextInt(n + 1);
  }

  private boolean oneIn(int n) {
    return chance.nextInt(n) == 0;
  }

  /** Mostly within the bounds, often at them, now and then just outside. */
  private int near(int least, int most) {
    int kind = chance.nextInt(40);
    if (kind == 0) {
      return least - 1;
    }
    if (kind == 1) {
      return most + 1;
    }
    if (kind == 2) {
      return chance.nextInt();
    }
    if (kind < 6) {
      return least;
    }
    return kind < 9 ? most : least + chance.nextInt(most - least + 1);
  }

  private String blanks() {
    return oneIn(12) ? " \n " : oneIn(12) ? "\n" : " ";
  }

  private String pick(List<String> names) {
    return names.get(chance.nextInt(names.size()));
  }

  private String townText() {
    sorts.clear();
    things.clear();
    StringBuilder s = new StringBuilder();
    int manySorts = oneIn(10) ? 0 : 1 + chance.nextInt(4);
    int manyThings = oneIn(10) ? 0 : 1 + chance.nextInt(3);
    for (int i = 0; i < manySorts; i++) {
      sorts.add(SORT_NAMES[i]);
      int patience = oneIn(3) ? 1000 : oneIn(4) ? 0 : upTo(1000);
      s.append("sort ").append(SORT_NAMES[i]).append(' ').append(1 + upTo(oneIn(2) ? 98 : 6));
      s.append(blanks()).append(patience).append(' ').append(upTo(oneIn(2) ? 60 : 9)).append(";");
    }
    for (int i = 0; i < manyThings; i++) {
      things.add(THING_NAMES[i]);
      s.append(" thing ").append(THING_NAMES[i]).append(' ');
      s.append(oneIn(3) ? 0 : oneIn(5) ? 1000 : upTo(1000));
      s.append(blanks()).append(oneIn(2) ? 0 : upTo(oneIn(3) ? 9 : 2)).append(';');
    }
    moreClauses(s);
    return s.toString();
  }

  private void moreClauses(StringBuilder s) {
    boolean rots = !oneIn(4);
    int cheap = oneIn(2) ? 3 : 19;
    for (int d = 0; d < 7; d++) {
      if (rots && oneIn(3)) {
        s.append("rot ").append(d).append(' ').append(upTo(oneIn(2) ? 900 : 100)).append(';');
      }
      for (String name : sorts) {
        if (oneIn(3)) {
          s.append("earn " + name + " " + d + " " + (1 + upTo(19)) + ";");
        }
        if (!things.isEmpty() && !oneIn(3)) {
          s.append("want " + name + " " + (oneIn(2) ? things.get(0) : pick(things)) + " " + d + " "
              + (1 + upTo(2)) + " " + upTo(oneIn(3) ? 99 : 9) + ";");
        }
      }
      for (String name : things) {
        if (oneIn(2)) {
          s.append("price " + name + " " + d + " " + (1 + upTo(cheap)) + ";");
        }
        if (oneIn(4)) {
          s.append("make " + name + " " + d + " " + upTo(oneIn(2) ? 999 : 60) + ";");
        }
      }
      if (s.length() > 760) {
        break;
      }
    }
    for (String name : sorts) {
      if (oneIn(4)) {
        s.append("ill " + name + " " + (1 + upTo(126)) + ";");
      }
    }
    if (!sorts.isEmpty() && !oneIn(3)) {
      s.append("chest ").append(pick(sorts)).append(';');
    }
    if (!things.isEmpty() && oneIn(2)) {
      s.append("store ").append(pick(things)).append(';');
    }
  }

  /** A text with a few places changed, so that it is likely to have a fault. */
  private String spoilt(String text) {
    StringBuilder s = new StringBuilder(text);
    String[] bits = {";", " ", "0", "7", "21", "1000", "99999", "a", "abcdefghi", "sort", "sort c 1 1 1;",
        "thing", "chest a;", "store n;", "ill a 3;", "rot 1 1;", ".", "\u00e9", "\n", "rot 0 901;",
        "want a n 1 1 1;", "make n 1 1;", "earn a 1 1;", "price n 1 1;"};
    for (int i = 1 + chance.nextInt(2); i > 0; i--) {
      String bit = bits[chance.nextInt(bits.length)];
      int semicolon = s.indexOf(";", s.length() == 0 ? 0 : chance.nextInt(s.length()));
      int at = oneIn(2) && semicolon >= 0 ? semicolon + 1 : upTo(s.length());
      if (oneIn(3) && at < s.length()) {
        s.deleteCharAt(at);
      } else {
        s.insert(at, bit);
      }
    }
    return s.toString();
  }

  private void put(String text) {
    byte[] bytes = Texts.bytes(text);
    call("end", 0);
    for (int i = 0; i < bytes.length; i += 20) {
      int[] f = Texts.five(bytes, i);
      call("feed", f[0], f[1], f[2], f[3], f[4]);
    }
    call("end", Math.min(900, bytes.length));
  }

  private void askTown() {
    for (int i = -1; i < 82; i++) {
      if (i < 20 || oneIn(2)) {
        call("told", i);
      }
    }
    for (int i = 0; i < 12; i++) {
      call("earns", near(0, 3), near(0, 6));
      call("price", near(0, 2), near(0, 6));
      call("made", near(0, 2), near(0, 6));
      call("wants", near(0, 3), near(0, 6), near(0, 2));
    }
  }

  private int sort() {
    return oneIn(40) ? near(0, 3) : sorts.isEmpty() ? 0 : chance.nextInt(sorts.size());
  }

  private void askPerson() {
    int day = near(0, 6);
    int coins = near(0, 60);
    int store = near(0, 5);
    switch (chance.nextInt(5)) {
      case 0: call("night", coins, store, day); break;
      case 1:
        for (int i = 0; i < 5; i++) {
          call("may", sort(), day, coins, store, near(0, 47));
        }
        break;
      case 2: call("best", sort(), day, coins, store, oneIn(3) ? near(0, 28) : near(0, 8)); break;
      case 3: call("bestAct", sort(), day, coins, store, oneIn(3) ? near(0, 28) : near(0, 8)); break;
      default: call("wayAct", near(0, 4), sort(), day, coins, store); break;
    }
  }

  private void askRun() {
    switch (chance.nextInt(10)) {
      case 0: call("way", sort(), near(0, 4)); break;
      case 1: call("anew"); break;
      case 2: call("keep", near(0, 2)); break;
      case 3: call("take", near(0, 2)); break;
      case 4: call("pass", near(0, 70)); break;
      default: call("pass", near(0, 9)); break;
    }
    for (int s = 0; s < 4 && oneIn(2); s++) {
      for (int what = -1; what < 8; what++) {
        call("run", s, what);
      }
    }
    for (int what = -1; what < 5; what++) {
      call("all", what);
    }
  }

  private void askRates() {
    switch (chance.nextInt(6)) {
      case 0: call("rate", near(1, 2)); break;
      case 1:
        call("rest", near(0, 1));
        call("price", near(0, 2), near(0, 6));
        break;
      case 2: call("restTurns"); break;
      default: call("worthAt", near(0, 18), near(1, 4)); break;
    }
  }

  private void askMoneys() {
    switch (chance.nextInt(6)) {
      case 0:
        call("two", near(0, 9), near(0, 9), near(0, 100), near(0, 100), near(0, 20), near(1, 20), near(0, 1));
        break;
      case 1: call("lend", near(0, 999), near(0, 52), near(0, 1000), near(0, 1)); break;
      case 2: call("early", oneIn(2) ? near(0, 40) : near(0, 999), near(0, 60), near(0, 6)); break;
      case 3:
        call("meet", sort(), near(0, (1 << sorts.size()) - 1), near(0, 100), near(0, 900),
            near(0, 40), near(0, 1));
        break;
      case 4: call("rests", near(0, 100), oneIn(2) ? 0 : near(0, 900), near(0, 40)); break;
      default:
        StringBuilder s = new StringBuilder();
        for (int i = 0; i < sorts.size(); i++) {
          s.append(upTo(99) + blanks() + upTo(oneIn(2) ? 20 : 99) + ";");
        }
        put(oneIn(4) ? spoilt(s.toString()) : s.toString());
        call("values");
        call("fault", 0);
        break;
    }
  }

  private void askBook() {
    StringBuilder s = new StringBuilder();
    for (int i = chance.nextInt(9); i > 0 && !sorts.isEmpty() && !things.isEmpty(); i--) {
      s.append(pick(sorts) + blanks() + pick(things) + " " + upTo(6) + " " + (1 + upTo(oneIn(3) ? 2 : 0))
          + blanks() + (1 + upTo(oneIn(3) ? 98 : 8)) + ";");
    }
    put(oneIn(4) ? spoilt(s.toString()) : s.toString());
    call("book");
    call("fault", 0);
    call("fault", 1);
    call("fault", 2);
  }

  private void tellTown() {
    String text = townText();
    if (oneIn(3)) {
      put(spoilt(text));
      call("town");
      call("fault", 0);
      call("fault", 1);
      call("count", near(0, 1));
    }
    put(text);
    call("town");
    call("fault", near(0, 1));
    call("count", 0);
    call("count", 1);
    if (oneIn(4)) {
      askTown();
    }
    for (int s = 0; s < sorts.size(); s++) {
      call("way", s, upTo(4));
    }
  }

  private void go() {
    if (oneIn(20)) {
      askTown();
    }
    if (!oneIn(20)) {
      tellTown();
    }
    while (left > 0 && wrong == null) {
      int kind = chance.nextInt(80);
      if (kind == 0) {
        tellTown();
      } else if (kind < 25) {
        askPerson();
      } else if (kind < 40) {
        askRun();
      } else if (kind < 50) {
        askRates();
      } else if (kind < 74) {
        askMoneys();
      } else {
        askBook();
      }
    }
  }

  public static void main(String[] args) {
    int runs = args.length > 0 ? Integer.parseInt(args[0]) : RUNS;
    int from = args.length > 1 ? Integer.parseInt(args[1]) : 0;
    int failed = 0;
    for (int seed = from; seed < from + runs && failed < 5; seed++) {
      AgainstPlainTest run = new AgainstPlainTest(seed);
      run.go();
      if (run.wrong != null) {
        failed++;
        System.out.println("seed " + seed + ", call " + run.calls.size() + ": " + run.wrong);
      }
    }
    System.out.println(failed == 0 ? runs + " runs are as Plain has them" : failed + " runs are not");
    if (failed > 0) {
      System.exit(1);
    }
  }
}
