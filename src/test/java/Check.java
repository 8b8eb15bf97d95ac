/** Answers that are not as due, each told with the sentence of the document that it breaks. */
final class Check {
  private String sentence = "";
  private int wrong = 0;
  private int held = 0;

  /** The sentence that the answers from now on are due by. */
  void says(String sentence) {
    this.sentence = sentence;
  }

  void due(String call, int got, int due) {
    if (got == due) {
      held++;
      return;
    }
    wrong++;
    System.out.println("\"" + sentence + "\": " + call + " answered " + got + ", due is " + due);
  }

  void must(boolean fine, String what) {
    due(what, fine ? 1 : 0, 1);
  }

  /** A new object with a town that can be told. */
  RotMoney town(String text) {
    RotMoney x = new RotMoney();
    must(Texts.town(x, text) >= 0, "the town " + text + " has no fault");
    return x;
  }

  void clauses(String text, int many) {
    RotMoney x = new RotMoney();
    due("town() of " + text, Texts.town(x, text), many);
    due("fault(0) of " + text, x.fault(0), 0);
    due("fault(1) of " + text, x.fault(1), RotMoney.NONE);
  }

  void faulty(String text, int kind, int place) {
    RotMoney x = new RotMoney();
    due("town() of " + text, Texts.town(x, text), RotMoney.NONE);
    due("kind in " + text, x.fault(0), kind);
    due("place in " + text, x.fault(1), place);
  }

  void finish(String name) {
    System.out.println(name + ": " + held + " answers as due, " + wrong + " not");
    if (wrong != 0 || held == 0) {
      System.exit(1);
    }
  }
}
