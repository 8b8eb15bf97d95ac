/** Terms I, promises 1 to 6 and 34: each sentence that names a bound of the tape, of texts, of what is told. */
public final class TapeBoundsTest {
  private static final int LEAST = Integer.MIN_VALUE;
  private static final int MOST = Integer.MAX_VALUE;
  private static final String AHEAD = "sort a 1 1 1;thing t 1 1;";
  private static final Check check = new Check();

  private static String blanks(int n) {
    return " ".repeat(n);
  }

  private static void newObject() {
    check.says("1: A TOWN of which nothing is told");
    RotMoney x = new RotMoney();
    check.due("sorts", x.told(0), 0);
    check.due("things", x.told(1), 0);
    check.due("chest", x.told(2), RotMoney.NONE);
    check.due("stored", x.told(3), RotMoney.NONE);
    for (int d = 0; d < 7; d++) {
      check.due("loss", x.told(10 + d), 0);
    }
    for (int what = 17; what < 80; what++) {
      check.due("told " + what, x.told(what), RotMoney.NONE);
    }
    int[] refused = {x.earns(0, 0), x.price(0, 0), x.made(0, 0), x.wants(0, 0, 0), x.night(0, 1, 0),
        x.may(0, 0, 0, 0, 0), x.best(0, 0, 0, 0, 0), x.bestAct(0, 0, 0, 0, 0), x.wayAct(0, 0, 0, 0, 0),
        x.way(0, 0), x.run(0, 0)};
    for (int i = 0; i < refused.length; i++) {
      check.due("of no SORT, no THING, call " + i, refused[i], RotMoney.RANGE);
    }
    check.due("meet", x.meet(0, 0, 0, 0, 0, 0), -1000000);
    check.due("clauses", x.count(0), 0);
    check.due("bytes", x.count(1), 0);
    check.due("fault", x.fault(0), 0);
    check.due("place", x.fault(1), RotMoney.NONE);
    check.due("chest", x.all(0), 0);
    check.due("days", x.all(1), 0);
    check.due("round", x.all(2), RotMoney.NONE);
    check.due("bought", x.all(3), 0);
    check.due("turns", x.restTurns(), RotMoney.NONE);
    for (int slot = 0; slot < 3; slot++) {
      check.due("slot " + slot, x.take(slot), RotMoney.STATE);
    }
    nothingToldGoesOn();
  }

  private static void nothingToldGoesOn() {
    RotMoney x = new RotMoney();
    check.due("an empty text", x.town(), 0);
    check.due("an empty row", x.values(), 1);
    check.due("an empty book", x.book(), RotMoney.FULL);
    check.due("days pass", x.pass(70), 70);
    check.due("none held", x.all(2), RotMoney.NONE);
    check.due("anew", x.anew(), 70);
    check.due("keep", x.keep(0), 0);
    check.due("take", x.take(0), 0);
    check.due("worth", x.worthAt(18, 4), 0);
    check.due("rate", x.rate(4), 0);
    check.due("rest", x.rest(1), 1);
    check.due("turns", x.restTurns(), 1);
    check.due("the empty set", x.rests(100, 900, 40), 1);
    check.due("held", x.lend(999, 52, 0, 1), 999);
    check.due("early", x.early(999, 60, 6), 999);
    RotMoney other = new RotMoney();
    Texts.town(other, AHEAD + "rot 0 9;");
    other.pass(3);
    check.due("what another one is told is not told here", x.told(0) + x.told(10) + x.all(1), 0);
  }

  private static void feedBytes() {
    check.says("2: Twenty bytes come behind THE TAPE, the highest of each int first");
    RotMoney x = new RotMoney();
    int[] five = {0x736f7274, 0x20616263, 0x64656667, 0x68203120, 0x3220333b};
    check.due("sort abcdefgh 1 2 3;", x.feed(five[0], five[1], five[2], five[3], five[4]), 20);
    check.due("its clauses", x.town(), 1);
    check.due("people, patience, coins", x.told(20) * 100 + x.told(30) * 10 + x.told(40), 123);
    // Each byte in turn is none of a text: the fault is at its own place.
    for (int at = 0; at < 20; at++) {
      int[] f = {0x20202020, 0x20202020, 0x20202020, 0x20202020, 0x20202020};
      f[at / 4] = f[at / 4] & ~(255 << 24 - at % 4 * 8) | 0x80 << 24 - at % 4 * 8;
      check.due("feed", x.feed(f[0], f[1], f[2], f[3], f[4]), 20);
      check.due("town", x.town(), RotMoney.NONE);
      check.due("place of byte " + at, x.fault(1), at);
    }
    Texts.put(x, "rot");
    check.due("behind three bytes", x.feed(0x20302037, 0x3b202020, 0x20202020, 0x20202020, 0x20202020), 23);
    check.due("one text", x.town(), 1);
    check.due("of both", x.told(10), 7);
  }

  private static void feedFull() {
    check.says("2: FULL when there would be more than 900");
    RotMoney x = new RotMoney();
    check.due("rot 0 1;", x.feed(0x726f7420, 0x3020313b, 0x20202020, 0x20202020, 0x20202020), 20);
    for (int bytes = 40; bytes <= 900; bytes += 20) {
      check.due("to " + bytes, x.feed(0x20202020, 0x20202020, 0x20202020, 0x20202020, 0x20202020), bytes);
    }
    check.due("to 920", x.feed(-1, -1, -1, -1, -1), RotMoney.FULL);
    check.due("stays", x.count(1), 900);
    check.due("and holds what it held", x.town(), 1);
    for (int kept = 879; kept <= 900; kept++) {
      RotMoney y = new RotMoney();
      Texts.put(y, blanks(kept));
      check.due("feed behind " + kept, y.feed(0, 0, 0, 0, 0), kept <= 880 ? kept + 20 : RotMoney.FULL);
      check.due("bytes", y.count(1), kept <= 880 ? kept + 20 : kept);
    }
  }

  private static void end() {
    check.says("3: n; NONE when it has not so many, or n is below 0");
    RotMoney x = new RotMoney();
    int[] below = {-1, -20, LEAST, 1, 20, MOST};
    for (int n : below) {
      check.due("end(" + n + ") of nothing", x.end(n), RotMoney.NONE);
    }
    check.due("end(0) of nothing", x.end(0), 0);
    Texts.put(x, blanks(900));
    int[] wrong = {901, MOST, -1, LEAST};
    for (int n : wrong) {
      check.due("end(" + n + ") of 900", x.end(n), RotMoney.NONE);
      check.due("bytes", x.count(1), 900);
    }
    check.due("all", x.end(900), 900);
    check.due("one less", x.end(899), 899);
    check.due("not so many any more", x.end(900), RotMoney.NONE);
    check.due("none", x.end(0), 0);
    check.due("bytes", x.count(1), 0);
    check.says("3: THE TAPE has its first n bytes alone");
    Texts.put(x, "rot 0 5;rot 1 6;????");
    check.due("the first clause", x.end(8), 8);
    check.due("and others behind it", x.feed(0x726f7420, 0x3220373b, 0x20202020, 0x20202020, 0x20202020), 28);
    check.due("two clauses", x.town(), 2);
    check.due("losses", x.told(10) * 100 + x.told(11) * 10 + x.told(12), 507);
  }

  private static void fullTape() {
    check.says("I: THE TAPE has at most 900 bytes");
    check.clauses(blanks(892) + "rot 6 9;", 1);
    check.faulty(blanks(893) + "rot 6 9", 1, 900);
    check.faulty(blanks(899) + "?", 1, 899);
    check.clauses(blanks(900), 0);
    check.clauses("", 0);
    StringBuilder all = new StringBuilder();
    int many = 0;
    for (int d = 0; d < 7; d++, many++) {
      all.append("rot").append(d).append(" 0;");
    }
    for (char s = 'a'; s <= 'd'; s++, many += 2) {
      all.append("sort ").append(s).append("1 0 0;ill ").append(s).append("1;");
    }
    for (char t = 'a'; t <= 'c'; t++, many++) {
      all.append("thing ").append(t).append("0 0;");
    }
    for (int i = 0; i < 28; i++, many++) {
      all.append("earn ").append((char) ('a' + i / 7)).append(i % 7).append(" 1;");
    }
    for (int i = 0; i < 21; i++, many += 2) {
      char t = (char) ('a' + i / 7);
      all.append("price ").append(t).append(i % 7).append(" 1;make ").append(t).append(i % 7).append(" 0;");
    }
    all.append("chest d;store c;");
    all.append(blanks(900 - all.length()));
    check.clauses(all.toString(), many + 2);
    RotMoney x = check.town(all.toString());
    check.due("count", x.count(0), many + 2);
    check.due("chest, stored", x.told(2) * 10 + x.told(3), 32);
    check.due("the last earn, price, make", x.earns(3, 6) * 100 + x.price(2, 6) * 10 + x.made(2, 6), 110);
  }

  private static void emptied() {
    check.says("I: each call that reads it empties it, whatever it tells");
    RotMoney x = check.town(AHEAD + "want a t 0 1 5;");
    String[] towns = {"?", "rot 0", AHEAD + "want a t 0 1 5;"};
    for (String text : towns) {
      Texts.town(x, text);
      check.due("bytes behind town() of " + text, x.count(1), 0);
      check.due("an empty tape is fed as a new one", x.feed(0, 0, 0, 0, 0), 20);
    }
    String[] books = {"?", "a t 0 1 5;", "a t 0 1 6;", "a t 0 1", "b t 0 1 5;", ""};
    for (String text : books) {
      Texts.book(x, text);
      check.due("bytes behind book() of " + text, x.count(1), 0);
      check.due("an empty tape is fed as a new one", x.feed(0, 0, 0, 0, 0), 20);
    }
    String[] rows = {"?", "1 2;", "1 2", "1 2;3 4;", ""};
    for (String text : rows) {
      Texts.values(x, text);
      check.due("bytes behind values() of " + text, x.count(1), 0);
      check.due("an empty tape is fed as a new one", x.feed(0, 0, 0, 0, 0), 20);
    }
  }

  private static void blanksBetween() {
    check.says("I: TOKENS with any blanks (32, 10) between");
    check.clauses("rot0 1;rot1 1;", 2);
    check.clauses("sort a1 0 0;thing a0 0;earn a0 1;price a0 1;make a0 0;want a a0 1 0;ill a1;chest a;store a;", 9);
    check.clauses("\nrot\n \n0 \n1\n;\n\n rot 1 \n\n 1 ; ", 2);
    check.clauses(" ", 0);
    check.clauses("\n", 0);
    int[] noBlanks = {0, 1, 9, 11, 12, 13, 31, 33, 127, 128, 138, 160, 255};
    for (int b : noBlanks) {
      check.faulty("rot 0" + (char) b + "1;", 1, 5);
      check.faulty("rot 0 1;" + (char) b, 1, 8);
      check.faulty((char) b + "rot 0 1;", 1, 0);
    }
    check.says("I: a WORD has as many letters, an N as many digits as there are");
    check.faulty("sorta 1 0 0;", 1, 0);
    check.faulty("sort a 1 00;", 1, 11);
    check.says("I: blanks are between TOKENS alone");
    check.faulty("ro t 0 1;", 1, 0);
    check.faulty("rot 0 9 0;", 1, 8);
    check.faulty("sort a b 1 1 1;", 1, 7);
  }

  private static void words() {
    check.says("I: WORDS (small letters, as many as there are, 8 at most)");
    check.clauses("sort a 1 1 1;sort abcdefg 1 1 1;sort abcdefgh 1 1 1;chest abcdefgh;", 4);
    check.faulty("sort abcdefghi 1 1 1;", 1, 5);
    check.faulty("sort " + "z".repeat(895), 1, 5);
    check.faulty(AHEAD + "chest aaaaaaaaa;", 1, 31);
    check.clauses("sort az 1 1 1;thing za 1 1;chest az;store za;", 4);
    // The signs next to a and z, great letters, and letters with the highest bit.
    int[] none = {96, 123, 64, 65, 90, 91, 'a' + 128, 'z' + 128};
    for (int b : none) {
      check.faulty("sort " + (char) b + " 1 1 1;", 1, 5);
      check.faulty("sort a" + (char) b + " 1 1 1;", 1, 6);
    }
    check.says("I: names are alike only if all their letters are");
    check.clauses("sort a 1 1 1;sort aa 1 1 1;sort b 1 1 1;sort ab 1 1 1;", 4);
    check.clauses("sort abcdefgh 1 1 1;sort abcdefgi 1 1 1;sort bbcdefgh 1 1 1;sort bcdefgh 1 1 1;", 4);
    check.clauses("thing abcdefgh 1 1;thing abcdefg 1 1;thing aabcdefg 1 1;", 3);
    RotMoney x = check.town("sort aa 1 1 1;sort a 2 1 1;sort ab 3 1 1;earn a 0 7;chest ab;");
    check.due("the one that is named", x.earns(1, 0) * 10 + x.told(2), 72);
    check.says("I: a clause's word is all of a WORD");
    String[] no = {"ro", "rott", "rotrot", "r", "sor", "sorts", "thin", "things", "ear", "earns", "prices",
        "mak", "makes", "wants", "il", "ills", "ches", "chests", "stor", "stores", "town"};
    for (String word : no) {
      check.faulty(AHEAD + word + " a 1 1;", 1, 25);
    }
    check.says("I: a name may be a clause's word");
    check.clauses("sort sort 1 1 1;sort chest 1 1 1;chest chest;earn sort 0 1;thing thing 1 1;store thing;", 6);
  }

  private static void numbers() {
    check.says("I: N (digits, as many as there are, 4 at most)");
    check.clauses("rot 0006 0900;rot 005 090;rot 04 0;rot 3 0000;", 4);
    check.faulty("rot 00006 1;", 1, 4);
    check.faulty("rot 6 00001;", 1, 6);
    check.faulty("rot 0 " + "0".repeat(894), 1, 6);
    check.faulty("rot 6 4294967296;", 1, 6);
    check.faulty("rot 4294967296 1;", 1, 4);
    check.due("all digits", check.town("rot 0 123;rot 1 456;rot 2 789;rot 3 10;").told(12), 789);
    int[] none = {47, 58, '0' + 128, '9' + 128, '-', '+'};
    for (int b : none) {
      check.faulty("rot " + (char) b + " 1;", 1, 4);
      check.faulty("rot 1" + (char) b + " 1;", 1, 5);
    }
    check.says("2 RANGE: an N out of its bounds, however many of four digits");
    check.faulty("rot 9999 1;", 2, 4);
    check.faulty("rot 0 9999;", 2, 6);
    check.faulty("rot 0 1000;", 2, 6);
    check.faulty("rot 10 1;", 2, 4);
  }

  /** Each number of each clause: what is ahead of it, what is behind it, least, greatest. */
  private static void numbersBounds() {
    check.says("2 RANGE: an N out of its bounds");
    String both = AHEAD + "want a t ";
    String[][] rows = {{"rot ", " 1;", "0", "6"}, {"rot 0 ", ";", "0", "900"},
        {"sort a ", " 1 1;", "1", "99"}, {"sort a 1 ", " 1;", "0", "1000"}, {"sort a 1 1 ", ";", "0", "60"},
        {"thing t ", " 1;", "0", "1000"}, {"thing t 1 ", ";", "0", "9"},
        {AHEAD + "earn a ", " 1;", "0", "6"}, {AHEAD + "earn a 0 ", ";", "1", "20"},
        {AHEAD + "price t ", " 1;", "0", "6"}, {AHEAD + "price t 0 ", ";", "1", "20"},
        {AHEAD + "make t ", " 1;", "0", "6"}, {AHEAD + "make t 0 ", ";", "0", "999"},
        {both, " 1 1;", "0", "6"}, {both + "0 ", " 1;", "1", "3"}, {both + "0 1 ", ";", "0", "99"},
        {AHEAD + "ill a ", ";", "1", "127"}};
    for (String[] row : rows) {
      int least = Integer.parseInt(row[2]);
      int most = Integer.parseInt(row[3]);
      int many = row[0].startsWith(AHEAD) ? 3 : 1;
      check.clauses(row[0] + least + row[1], many);
      check.clauses(row[0] + most + row[1], many);
      check.faulty(row[0] + (most + 1) + row[1], 2, row[0].length());
      check.faulty(row[0] + "9999" + row[1], 2, row[0].length());
      check.faulty(row[0] + (most + 1), 2, row[0].length());
      if (least > 0) {
        check.faulty(row[0] + (least - 1) + row[1], 2, row[0].length());
      }
      check.faulty(row[0] + "-1" + row[1], 1, row[0].length());
    }
  }

  private static void numbersToldBack() {
    check.says("6 to 10: what is told at its least and at its greatest");
    RotMoney least = check.town("rot 0 0;sort a 1 0 0;thing t 0 0;earn a 0 1;price t 0 1;make t 0 0;"
        + "want a t 0 1 0;ill a 1;");
    int[] got = {least.told(10), least.told(20), least.told(30), least.told(40), least.told(50),
        least.told(60), least.told(70), least.earns(0, 0), least.price(0, 0), least.made(0, 0),
        least.wants(0, 0, 0), least.wants(0, 0, 1), least.wants(0, 0, 2)};
    int[] due = {0, 1, 0, 0, 1, 0, 0, 1, 1, 0, 0, 1, 0};
    for (int i = 0; i < got.length; i++) {
      check.due("least " + i, got[i], due[i]);
    }
    RotMoney most = check.town("rot 6 900;sort a 99 1000 60;thing t 1000 9;earn a 6 20;price t 6 20;"
        + "make t 6 999;want a t 6 3 99;ill a 127;");
    int[] gotMost = {most.told(16), most.told(20), most.told(30), most.told(40), most.told(50),
        most.told(60), most.told(70), most.earns(0, 6), most.price(0, 6), most.made(0, 6),
        most.wants(0, 6, 0), most.wants(0, 6, 1), most.wants(0, 6, 2)};
    int[] dueMost = {900, 99, 1000, 60, 127, 1000, 9, 20, 20, 999, 0, 3, 99};
    for (int i = 0; i < gotMost.length; i++) {
      check.due("greatest " + i, gotMost[i], dueMost[i]);
    }
  }

  private static void untold() {
    check.says("I: (0), (5), (as many as one likes, if untold), (nobody), (THING 0, if untold)");
    RotMoney x = check.town("sort a 1 1 1;thing t 1 1;thing u 1 1;");
    for (int d = 0; d < 7; d++) {
      check.due("loss", x.told(10 + d), 0);
      check.due("earns", x.earns(0, d), 0);
      check.due("price", x.price(1, d), 5);
      check.due("made", x.made(1, d), RotMoney.NONE);
      check.due("wants", x.wants(0, d, 0), RotMoney.NONE);
      check.due("units", x.wants(0, d, 1), 0);
      check.due("worth", x.wants(0, d, 2), 0);
    }
    check.due("ill", x.told(50), 0);
    check.due("chest", x.told(2), RotMoney.NONE);
    check.due("stored", x.told(3), 0);
    check.due("stored, told ahead of a later THING", check.town("thing t 1 1;store t;thing u 1 1;").told(3), 0);
    check.due("stored is the last one", check.town("thing t 1 1;thing u 1 1;thing v 1 1;store v;").told(3), 2);
    check.due("the chest is the last one's", check.town("sort a 1 1 1;sort b 1 1 1;sort c 1 1 1;"
        + "sort d 1 1 1;chest d;").told(2), 3);
  }

  private static void syntax() {
    check.says("1 SYNTAX: a TOKEN with which no text goes on");
    String[][] clauses = {{"rot", "1", "1", ";"}, {"sort", "b", "1", "1", "1", ";"},
        {"thing", "u", "1", "1", ";"}, {"earn", "a", "1", "1", ";"}, {"price", "t", "1", "1", ";"},
        {"make", "t", "1", "1", ";"}, {"want", "a", "t", "1", "1", "1", ";"}, {"ill", "a", "1", ";"},
        {"chest", "a", ";"}, {"store", "t", ";"}};
    String[] others = {"x", "1", ";", ".", "", "?", "aaaaaaaaa", "00001"};
    for (String[] clause : clauses) {
      StringBuilder ahead = new StringBuilder(AHEAD);
      for (int at = 0; at < clause.length; at++) {
        for (String other : others) {
          boolean fits = clause[at].equals(";") ? other.equals(";")
              : Character.isDigit(clause[at].charAt(0)) ? other.equals("1") : other.equals("x");
          if (fits && at > 0 || at == 0 && other.isEmpty()) {
            continue;
          }
          check.faulty(ahead + other, 1, ahead.length());
          check.faulty(ahead + "  " + other, 1, ahead.length() + 2);
        }
        ahead.append(clause[at]).append(' ');
      }
      check.clauses(ahead.toString(), 3);
    }
    check.says("I: A TOWN is a text = {clause \";\"}");
    check.faulty(";", 1, 0);
    check.faulty("rot 1 1;;", 1, 8);
    check.faulty("rot 1 1 rot 2 1;", 1, 8);
    check.faulty("rot 1 1.", 1, 7);
    check.faulty("rot 1 1,", 1, 7);
    check.says("I: PLACE: the text's length at its end");
    check.faulty("rot 1 1", 1, 7);
    check.faulty("rot 1 1 \n ", 1, 10);
    check.faulty("rot", 1, 3);
    check.faulty("chest", 1, 5);
  }

  private static void room() {
    check.says("4 ROOM: a SORT, a THING too many, at its first WORD");
    String four = "sort a 1 1 1;sort b 1 1 1;sort c 1 1 1;sort d 1 1 1;";
    String three = "thing a 1 1;thing b 1 1;thing c 1 1;";
    check.clauses(four, 4);
    check.clauses(three, 3);
    check.clauses(four + three, 7);
    check.faulty(four + "sort e 1 1 1;", 4, four.length());
    check.faulty(three + "thing d 1 1;", 4, three.length());
    check.faulty(four + three + " sort e 1 1 1;", 4, four.length() + three.length() + 1);
    check.faulty(three + four + " thing d 1 1;", 4, four.length() + three.length() + 1);
    check.says("I: the first come to as TOKENS are read one by one");
    check.faulty(four + "sort a 1 1 1;", 4, four.length());
    check.faulty(four + "sort", 4, four.length());
    check.faulty(four + "sort;", 4, four.length());
    check.faulty(three + "thing 9999", 4, three.length());
    check.says("I: numbered from 0 as they come");
    RotMoney x = check.town("thing u 1 2;sort d 4 1 1;thing t 2 3;sort a 5 1 1;sort c 6 1 1;thing w 3 4;"
        + "sort b 7 1 1;");
    for (int i = 0; i < 4; i++) {
      check.due("SORT " + i, x.told(20 + i), 4 + i);
    }
    for (int i = 0; i < 3; i++) {
      check.due("THING " + i, x.told(60 + i), 1 + i);
    }
  }

  private static void twice() {
    check.says("3 TWICE: a name that one of its kind has");
    check.faulty("sort a 1 1 1;sort a 2 2 2;", 3, 18);
    check.faulty("sort a 1 1 1;sort b 1 1 1;sort c 1 1 1;sort c 1 1 1;", 3, 44);
    check.faulty("thing t 1 1;thing t 1 1;", 3, 18);
    check.faulty("thing t 1 1;thing u 1 1;thing u 1 1;", 3, 30);
    check.faulty("sort abcdefgh 1 1 1;sort abcdefgh", 3, 25);
    check.clauses("sort a 1 1 1;thing a 1 1;sort b 1 1 1;thing b 1 1;", 4);
    check.says("3 TWICE: a DAY of rot, of an earn of the SORT, of a price, a make of the THING, of a want of "
        + "the SORT, that was told so (at the DAY)");
    for (int d = 0; d < 7; d++) {
      check.faulty("rot " + d + " 0;rot " + d + " 1;", 3, 12);
      check.faulty(AHEAD + "earn a " + d + " 1;earn a " + d + " 1;", 3, 43);
      check.faulty(AHEAD + "price t " + d + " 5;price t " + d + " 5;", 3, 45);
      check.faulty(AHEAD + "make t " + d + " 0;make t " + d + " 0;", 3, 43);
      check.faulty(AHEAD + "want a t " + d + " 1 0;want a t " + d + " 1 0;", 3, 49);
    }
    check.faulty(AHEAD + "thing u 1 1;want a t 3 1 0;want a u 3 1 0;", 3, 61);
    check.faulty("rot 1 1;rot 1 901;", 3, 12);
    check.says("3 TWICE: with others told between");
    check.faulty("rot 0 1;rot 1 1;rot 0 1;", 3, 20);
    check.faulty("rot 6 1;rot 0 1;rot 1 1;rot 6 1;", 3, 28);
    String all = "sort a 1 1 1;sort b 1 1 1;sort c 1 1 1;sort d 1 1 1;thing t 1 1;thing u 1 1;thing v 1 1;";
    for (char sort = 'a'; sort <= 'd'; sort++) {
      char other = sort == 'a' ? 'b' : 'a';
      String ahead = all + "earn " + sort + " 3 1;earn " + other + " 3 1;earn " + sort + " 4 1;";
      check.faulty(ahead + "earn " + sort + " 3 1;", 3, ahead.length() + 7);
      ahead = all + "want " + sort + " u 3 1 1;want " + other + " v 3 1 1;want " + sort + " t 4 1 1;";
      check.faulty(ahead + "want " + sort + " v 3 1 1;", 3, ahead.length() + 9);
      ahead = all + "ill " + sort + " 3;ill " + other + " 3;";
      check.faulty(ahead + "ill " + sort + " 4;", 3, ahead.length() + 4);
      check.faulty(all + "sort " + sort + " 1 1 1;", 4, all.length());
    }
    for (char thing = 't'; thing <= 'v'; thing++) {
      char other = thing == 't' ? 'u' : 't';
      String ahead = all + "price " + thing + " 3 1;price " + other + " 3 1;price " + thing + " 4 1;";
      check.faulty(ahead + "price " + thing + " 3 1;", 3, ahead.length() + 8);
      ahead = all + "make " + thing + " 3 1;make " + other + " 3 1;make " + thing + " 4 1;";
      check.faulty(ahead + "make " + thing + " 3 1;", 3, ahead.length() + 7);
    }
    check.says("3 TWICE: of the same DAY, SORT, THING and clause alone");
    String two = "sort a 1 1 1;sort b 1 1 1;thing t 1 1;thing u 1 1;";
    check.clauses("rot 0 1;rot 1 1;rot 2 1;rot 3 1;rot 4 1;rot 5 1;rot 6 1;", 7);
    check.clauses(two + "earn a 0 1;earn b 0 1;earn a 1 1;earn b 6 1;", 8);
    check.clauses(two + "price t 0 1;price u 0 1;price t 1 1;make t 0 1;make u 0 1;make t 1 1;", 10);
    check.clauses(two + "want a t 0 1 1;want b t 0 1 1;want a u 1 1 1;want b u 6 1 1;", 8);
    check.clauses(two + "want b t 0 1 1;want a t 0 1 1;want a u 1 1 1;want b u 1 1 1;", 8);
    check.clauses(two + "rot 0 1;earn a 0 1;price t 0 1;make t 0 1;want a t 0 1 1;ill a 1;", 10);
    check.says("3 TWICE: ill of a SORT again (at its name)");
    check.faulty(AHEAD + "ill a 1;ill a 2;", 3, 37);
    check.faulty(AHEAD + "ill a 1;ill a 0;", 3, 37);
    check.faulty(AHEAD + "ill a 127;ill a", 3, 39);
    check.clauses(two + "ill a 1;ill b 1;", 6);
    check.says("3 TWICE: chest, store again");
    check.faulty(AHEAD + "chest a;chest a;", 3, 33);
    check.faulty(AHEAD + "sort b 1 1 1;chest a;chest b;", 3, 46);
    check.faulty(AHEAD + "store t;store t;", 3, 33);
    check.faulty(AHEAD + "thing u 1 1;store t;store u;", 3, 45);
    check.faulty(AHEAD + "chest a;chest x;", 3, 33);
    check.clauses(AHEAD + "chest a;store t;", 4);
  }

  private static void unknown() {
    check.says("5 UNKNOWN: a W that should be a SORT, a THING and is none");
    String[][] rows = {{"earn ", "x"}, {"earn ", "t"}, {"price ", "x"}, {"price ", "a"}, {"make ", "x"},
        {"make ", "a"}, {"want ", "x"}, {"want ", "t"}, {"want a ", "x"}, {"want a ", "a"}, {"ill ", "x"},
        {"ill ", "t"}, {"chest ", "x"}, {"chest ", "t"}, {"store ", "x"}, {"store ", "a"},
        {"chest ", "aa"}, {"store ", "tt"}, {"chest ", "aaaaaaaa"}};
    for (String[] row : rows) {
      check.faulty(AHEAD + row[0] + row[1], 5, AHEAD.length() + row[0].length());
      check.faulty(AHEAD + row[0] + row[1] + " 9999;", 5, AHEAD.length() + row[0].length());
    }
    check.says("I: SORTS, THINGS that are named are told ahead");
    check.faulty("chest a;sort a 1 1 1;", 5, 6);
    check.faulty("store t;thing t 1 1;", 5, 6);
    check.faulty("earn a 0 1;sort a 1 1 1;", 5, 5);
    check.faulty("sort a 1 1 1;want a t 0 1 1;thing t 1 1;", 5, 20);
    check.says("5 UNKNOWN: names of an earlier town, or of one with a FAULT, are none");
    RotMoney x = check.town(AHEAD);
    check.due("chest a", Texts.town(x, "chest a;"), RotMoney.NONE);
    check.due("kind", x.fault(0), 5);
    check.due("sort x with a fault", Texts.town(x, "sort x 1 1 1;sort y 1 1 61;"), RotMoney.NONE);
    check.due("sort x", Texts.town(x, "chest x;"), RotMoney.NONE);
    check.due("kind", x.fault(0), 5);
    check.due("a book's x", Texts.book(x, "x t 0 1 1;"), RotMoney.NONE);
    check.due("kind", x.fault(0), 5);
    check.due("a book's a", Texts.book(x, "a t 0 1 1;"), 0);
  }

  private static void firstComeTo() {
    check.says("I: the first come to, of whatever KIND");
    check.faulty("rot 7 x", 2, 4);
    check.faulty("rot 1 901 901;", 2, 6);
    check.faulty("earn x ?", 5, 5);
    check.faulty(AHEAD + "earn x 7 0;", 5, 30);
    check.faulty(AHEAD + "earn a 7 0;", 2, 32);
    check.faulty(AHEAD + "want x y 7 0 100;", 5, 30);
    check.faulty(AHEAD + "want a t 7 0 100;", 2, 34);
    check.faulty(AHEAD + "want a t 6 0 100;", 2, 36);
    check.faulty(AHEAD + "earn a 0 1;earn a 0 0;", 3, 43);
    check.faulty("rot 0 1;? rot 0 1;", 1, 8);
    check.faulty("sort a 1 1 1;sort a", 3, 18);
  }

  private static void townBegins() {
    check.says("4: THE RUN begins anew, all WAYS are KEEP, prices are as told, values 0, SLOTS are empty; "
        + "what rest() told of turns is gone");
    String[] next = {"", "sort a 2 1 7;sort b 3 1 8;thing t 0 0;make t 0 9;price t 0 7;"};
    for (String text : next) {
      RotMoney x = check.town("rot 0 500;sort a 1 1 20;sort b 1 1 30;thing t 0 0;make t 0 9;price t 0 7;chest a;");
      x.way(0, 4);
      x.way(1, 0);
      x.pass(9);
      x.keep(0);
      x.keep(1);
      x.keep(2);
      x.rest(0);
      Texts.values(x, "9 9;9 9;");
      Texts.book(x, "?");
      check.due("clauses", Texts.town(x, text), text.isEmpty() ? 0 : 5);
      check.due("days", x.all(1), 0);
      check.due("chest", x.all(0), 0);
      check.due("bought", x.all(3), 0);
      check.due("round", x.all(2), RotMoney.NONE);
      check.due("turns", x.restTurns(), RotMoney.NONE);
      check.due("fault", x.fault(0), 0);
      check.due("place", x.fault(1), RotMoney.NONE);
      check.due("loss", x.told(10), 0);
      check.due("chest's SORT", x.told(2), RotMoney.NONE);
      for (int slot = 0; slot < 3; slot++) {
        check.due("slot " + slot, x.take(slot), RotMoney.STATE);
      }
      if (text.isEmpty()) {
        continue;
      }
      check.due("price", x.price(0, 0), 7);
      check.due("way", x.way(0, 1), 1);
      check.due("way", x.way(1, 1), 1);
      check.due("coins", x.run(0, 0) * 10 + x.run(1, 0), 78);
      for (int what = 1; what < 7; what++) {
        check.due("run(1, " + what + ")", x.run(1, what), 0);
      }
      check.due("value", x.meet(0, 3, 100, 0, 1, 0), 0);
      check.due("cost", x.meet(1, 3, 100, 0, 1, 1), 0);
    }
  }

  private static void townForgets() {
    check.says("1, 4: nothing is told but what the latest TOWN tells");
    String full = "rot 2 9;sort a 9 9 9;sort b 9 9 9;thing t 9 9;thing u 9 9;earn b 2 9;price u 2 9;make u 2 9;"
        + "want b u 2 3 9;ill b 4;chest b;store u;";
    String bare = "sort a 1 1 1;sort b 1 1 1;thing t 1 1;thing u 1 1;";
    RotMoney x = check.town(full);
    Texts.town(x, full);
    Texts.town(x, full + "?");
    for (int again = 0; again < 3; again++) {
      check.due("the bare town", Texts.town(x, bare), 4);
      int[] got = {x.told(2), x.told(3), x.told(12), x.told(51), x.earns(1, 2), x.price(1, 2), x.made(1, 2),
          x.wants(1, 2, 0), x.wants(1, 2, 1), x.wants(1, 2, 2)};
      int[] due = {RotMoney.NONE, 0, 0, 0, 0, 5, RotMoney.NONE, RotMoney.NONE, 0, 0};
      for (int i = 0; i < got.length; i++) {
        check.due("number " + i, got[i], due[i]);
      }
    }
    check.says("3 TWICE: of what this TOWN told");
    for (int again = 0; again < 3; again++) {
      check.due("the full town", Texts.town(x, full), 12);
      check.due("a FAULT behind all of it", Texts.town(x, full + "?"), RotMoney.NONE);
    }
  }

  private static void fault() {
    check.says("5: what 0: its FAULT's KIND, 0 without (and ahead of any), 1: its PLACE (NONE)");
    RotMoney x = new RotMoney();
    check.due("ahead of any", x.fault(0), 0);
    check.due("ahead of any", x.fault(1), RotMoney.NONE);
    Texts.town(x, "?");
    check.due("kind", x.fault(0), 1);
    check.due("place 0", x.fault(1), 0);
    check.says("5: Of the latest town(), book()");
    Texts.town(x, AHEAD);
    check.due("gone by a town", x.fault(0), 0);
    check.due("gone by a town", x.fault(1), RotMoney.NONE);
    Texts.book(x, "a t 0 1 0;");
    check.due("a book's", x.fault(0), 2);
    check.due("a book's", x.fault(1), 8);
    Texts.values(x, "1 1;");
    Texts.values(x, "?");
    x.pass(3);
    x.rest(0);
    x.anew();
    check.due("stays", x.fault(0), 2);
    check.due("stays", x.fault(1), 8);
    Texts.town(x, "rot 0 1");
    check.due("a town's", x.fault(0), 1);
    check.due("a town's", x.fault(1), 7);
    check.due("lost, without a FAULT", Texts.book(x, "a t 0 1 1;"), 0);
    check.due("gone by a book", x.fault(0), 0);
    check.due("gone by a book", x.fault(1), RotMoney.NONE);
    check.says("5: NONE for another what");
    Texts.town(x, "rot 0 1");
    int[] others = {-1, 2, 3, LEAST, MOST};
    for (int what : others) {
      check.due("fault(" + what + ")", x.fault(what), RotMoney.NONE);
    }
  }

  private static void told() {
    check.says("6: NONE for others");
    RotMoney full = check.town("rot 0 11;rot 6 17;sort a 21 31 41;sort b 22 32 42;sort c 23 33 43;"
        + "sort d 24 34 44;ill a 51;ill d 54;thing t 61 1;thing u 62 2;thing v 63 3;chest a;store u;");
    int[][] due = {{0, 4}, {1, 3}, {2, 0}, {3, 1}, {10, 11}, {11, 0}, {16, 17}, {20, 21}, {21, 22}, {22, 23},
        {23, 24}, {30, 31}, {31, 32}, {32, 33}, {33, 34}, {40, 41}, {41, 42}, {42, 43}, {43, 44}, {50, 51},
        {51, 0}, {52, 0}, {53, 54}, {60, 61}, {61, 62}, {62, 63}, {70, 1}, {71, 2}, {72, 3}};
    for (int[] row : due) {
      check.due("told(" + row[0] + ")", full.told(row[0]), row[1]);
    }
    int[] others = {-1, -2, -7, -10, -20, -73, LEAST, MOST, 4, 5, 9, 17, 18, 19, 24, 29, 34, 39, 44, 49, 54,
        59, 63, 64, 69, 73, 79, 80, 81, 90, 100, 110, 120, 1000};
    for (int what : others) {
      check.due("told(" + what + ")", full.told(what), RotMoney.NONE);
    }
    RotMoney one = check.town("sort a 1 2 3;thing t 4 5;");
    int[] beyondOne = {21, 31, 41, 51, 61, 71, 22, 23, 62};
    for (int what : beyondOne) {
      check.due("told(" + what + ") of one", one.told(what), RotMoney.NONE);
    }
    check.due("SORTS without THINGS", check.town("sort a 1 1 1;").told(3), RotMoney.NONE);
    check.due("THINGS without SORTS", check.town("thing a 1 1;").told(3), 0);
    check.says("6: as told, after a smaller town came");
    Texts.town(full, "sort a 1 2 3;thing t 4 5;");
    for (int what : beyondOne) {
      check.due("told(" + what + ")", full.told(what), RotMoney.NONE);
    }
    check.due("ill", full.told(50), 0);
    check.due("chest", full.told(2), RotMoney.NONE);
    check.due("stored", full.told(3), 0);
  }

  private static void count() {
    check.says("34: What 0: clauses of the TOWN, 1: bytes of THE TAPE. NONE for others");
    RotMoney x = new RotMoney();
    check.due("no clauses", x.count(0), 0);
    check.due("no bytes", x.count(1), 0);
    Texts.town(x, "rot 0 1;rot 1 1;");
    Texts.put(x, blanks(900));
    check.due("clauses", x.count(0), 2);
    check.due("bytes", x.count(1), 900);
    int[] others = {-1, 2, LEAST, MOST};
    for (int what : others) {
      check.due("count(" + what + ")", x.count(what), RotMoney.NONE);
    }
    Texts.town(x, "rot 0 1;rot 1 1;rot 1 1;");
    check.due("clauses of the TOWN that stays", x.count(0), 2);
    Texts.town(x, "");
    check.due("none", x.count(0), 0);
  }

  public static void main(String[] args) {
    newObject();
    feedBytes();
    feedFull();
    end();
    fullTape();
    emptied();
    blanksBetween();
    words();
    numbers();
    numbersBounds();
    numbersToldBack();
    untold();
    syntax();
    room();
    twice();
    unknown();
    firstComeTo();
    townBegins();
    townForgets();
    fault();
    told();
    count();
    check.finish("TapeBoundsTest");
  }
}
