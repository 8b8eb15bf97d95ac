import java.util.LinkedHashMap;
import java.util.Map;
import java.util.function.Consumer;
import java.util.function.Supplier;

/** Holds an object on which a call was made against its twin, which was made alike but without that call. */
final class Twins {
  private final Check check;
  private final Supplier<RotMoney> maker;

  Twins(Check check, Supplier<RotMoney> maker) {
    this.check = check;
    this.maker = maker;
  }

  RotMoney one() {
    return maker.get();
  }

  /** An object of one() on which a call was made that changes nothing. */
  void same(String call, RotMoney called) {
    only(call, called);
  }

  /** A call that changes the given parts, each of them, and no other one. */
  void only(String call, Consumer<RotMoney> made, String... parts) {
    RotMoney called = maker.get();
    made.accept(called);
    only(call, called, parts);
  }

  private void only(String call, RotMoney called, String... parts) {
    Map<String, String> now = observe(called);
    Map<String, String> due = observe(maker.get());
    for (String part : due.keySet()) {
      boolean changes = false;
      for (String told : parts) {
        changes |= told.equals(part);
      }
      boolean same = due.get(part).equals(now.get(part));
      check.must(same != changes, call + (changes ? " changes the " : " leaves the ") + part + " (without it: "
          + due.get(part) + "; with it: " + now.get(part) + ")");
    }
  }

  /** All that calls can tell of an object, by parts. It is of no use afterwards. */
  private static Map<String, String> observe(RotMoney x) {
    Map<String, String> parts = new LinkedHashMap<>();
    int sorts = x.told(0);
    int things = x.told(1);
    parts.put("fault", x.fault(0) + " at " + x.fault(1));
    parts.put("turns", "" + x.restTurns());
    parts.put("town", town(x, sorts, things));
    parts.put("prices", prices(x, things));
    parts.put("values", values(x, sorts));
    parts.put("run", run(x, sorts));
    parts.put("ways", ways(x, sorts));
    for (int slot = 0; slot < 3; slot++) {
      int days = x.take(slot);
      parts.put("slot " + slot, days < 0 ? "empty" : run(x, sorts) + " by " + ways(x, sorts));
    }
    int bytes = x.count(1);
    int clauses = x.town();
    parts.put("tape", bytes + " bytes: " + clauses + ", " + x.fault(0) + ", " + x.fault(1) + ", "
        + town(x, x.told(0), x.told(1)));
    return parts;
  }

  private static String town(RotMoney x, int sorts, int things) {
    StringBuilder all = new StringBuilder();
    all.append(x.count(0)).append(' ').append(sorts).append(' ').append(things);
    all.append(' ').append(x.told(2)).append(' ').append(x.told(3)).append(" held ").append(x.lend(999, 1, 0, 1));
    for (int day = 0; day < 7; day++) {
      all.append(" day ").append(x.told(10 + day)).append(' ').append(x.night(60, 0, day));
      for (int sort = 0; sort < sorts; sort++) {
        all.append(' ').append(x.earns(sort, day)).append(' ').append(x.wants(sort, day, 0));
        all.append(' ').append(x.wants(sort, day, 1)).append(' ').append(x.wants(sort, day, 2));
      }
      for (int thing = 0; thing < things; thing++) {
        all.append(' ').append(x.made(thing, day));
      }
    }
    for (int row = 20; row < 60; row += 10) {
      for (int sort = 0; sort < sorts; sort++) {
        all.append(" s ").append(x.told(row + sort));
      }
    }
    for (int thing = 0; thing < things; thing++) {
      all.append(" t ").append(x.told(60 + thing)).append(' ').append(x.told(70 + thing));
    }
    return all.toString();
  }

  private static String prices(RotMoney x, int things) {
    StringBuilder all = new StringBuilder();
    for (int i = 0; i < 7 * things; i++) {
      all.append(x.price(i / 7, i % 7)).append(' ');
    }
    return all.toString();
  }

  private static String values(RotMoney x, int sorts) {
    StringBuilder all = new StringBuilder();
    for (int sort = 0; sort < sorts; sort++) {
      all.append(x.meet(sort, (1 << sorts) - 1, 100, 0, 1, 0)).append(' ');
      all.append(x.meet(sort, (1 << sorts) - 1, 100, 0, 1, 1)).append(' ');
    }
    return all.toString();
  }

  private static String run(RotMoney x, int sorts) {
    StringBuilder all = new StringBuilder();
    for (int what = 0; what < 4; what++) {
      all.append(x.all(what)).append(' ');
    }
    for (int i = 0; i < 7 * sorts; i++) {
      all.append(x.run(i / 7, i % 7)).append(' ');
    }
    return all.toString();
  }

  /** Each way is put back. */
  private static String ways(RotMoney x, int sorts) {
    StringBuilder all = new StringBuilder();
    for (int sort = 0; sort < sorts; sort++) {
      int way = x.way(sort, 0);
      x.way(sort, way);
      all.append(way).append(' ');
    }
    return all.toString();
  }
}
