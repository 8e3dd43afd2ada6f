/** Promises 1, 13 and 16 to 20: the first and the last answer of each question, and the 512th call. */
public final class AnswerEdgesTest {
  private static final int[] FAR = {Integer.MIN_VALUE, Integer.MIN_VALUE + 1, -2, -1,
      Integer.MAX_VALUE - 1, Integer.MAX_VALUE};

  public static void main(String[] args) {
    newObject();
    newObjectIsTheRootAlone();
    heldPersons();
    heldNumbers();
    heldAfterErasure();
    loggedNumbers();
    loggedWhat();
    loggedOutlivesItems();
    peekNumbers();
    lookNumbers();
    lookWhat();
    lookPersonsAsBits();
    lookDerivedStraight();
    stateWhat();
    stateCounts();
    questionsChangeNothing();
    lastCall();
    Run.end();
  }

  private static void newObject() {
    Run run = new Run("1 \"the root alone; nothing else\"");
    run.due("state(0)", 1).due("why()", -1).due("peek(0)", 0).due("logged(0, 0)", -1);
    for (int what = 1; what < 6; what++) {
      run.due(Run.with("state(#)", what), 0);
    }
    for (int person = 0; person < 16; person++) {
      run.due(Run.with("held(#, 0)", person), -1).due(Run.with("erase(#, 0)", person), 0);
    }
    for (int what = 0; what < 5; what++) {
      run.due(Run.with("look(0, #)", what), -1);
    }
    run.due("sweep(0)", 0).due("sweep(6944)", 0).due("why()", -1);
  }

  private static void newObjectIsTheRootAlone() {
    new Run("1 the root is a purpose, and there is no kind, item or hold")
        .due("consent(0, 0, true, 0)", 1).badArgument("consent(0, 1, true, 0)")
        .badArgument("purpose(1)").badArgument("put(0, 0, 1, 0)").badArgument("event(0, 0, 0)")
        .badArgument("duty(0, 0, 1)").badArgument("hold(100, 0, 0)").badArgument("lift(0, 0)")
        .noElement("use(0, 0, 0)").noElement("derive(0, 0, 0)").due("kind(1)", 0)
        .due("put(0, 0, 7, 0)", 0).due("use(0, 0, 0)", 7);
    new Run("1 a second object has nothing of the first").due("state(0)", 1).due("state(1)", 0)
        .due("state(2)", 0).due("kind(1)", 0).due("put(0, 0, 7, 0)", 0).badState("use(0, 0, 0)")
        .due("consent(0, 0, true, 0)", 1);
  }

  private static Run twoItems(String name) {
    return new Run(name).due("kind(1)", 0).due("put(0, 0, 5, 3)", 0).due("put(15, 0, 6, 4)", 1);
  }

  private static void heldPersons() {
    Run run = twoItems("16 held by persons 0 to 15");
    run.due("held(0, 0)", 0).due("held(15, 0)", 1).due("held(1, 0)", -1).due("held(14, 0)", -1)
        .due("held(16, 0)", -1).due("held(31, 0)", -1).due("held(32, 0)", -1).due("held(47, 0)", -1)
        .due("held(-17, 0)", -1).due("held(-32, 0)", -1).due("held(100, 0)", -1);
    for (int far : FAR) {
      run.due(Run.with("held(#, 0)", far), -1);
    }
  }

  private static void heldNumbers() {
    Run run = twoItems("16 \"the i-th one's number (from 0 on); -1 when there is none such\"");
    run.due("put(0, 0, 7, 0)", 2).due("derive(0, 1, 0)", 3).due("derive(1, 0, 1)", 4)
        .due("held(0, 0)", 0).due("held(0, 1)", 2).due("held(0, 2)", 4).due("held(0, 3)", -1)
        .due("held(15, 0)", 1).due("held(15, 1)", 3).due("held(15, 2)", 4).due("held(15, 3)", -1);
    for (int far : FAR) {
      run.due(Run.with("held(0, #)", far), -1);
    }
    Run full = new Run("16 the last of a hundred");
    full.due("kind(1)", 0).dueCounting("put(3, 0, 5, 0)", 100, 0).due("held(3, 0)", 0)
        .due("held(3, 99)", 99).due("held(3, 100)", -1).due("held(3, 98)", 98);
  }

  private static void heldAfterErasure() {
    twoItems("16 \"of those that live\"").due("derive(1, 0, 1)", 2).due("derive(0, 0, 0)", 3)
        .due("derive(2, 0, 1)", 4).due("put(0, 0, 9, 0)", 5).due("erase(0, 0)", 4)
        .due("held(0, 0)", 2).due("held(0, 1)", -1).due("held(15, 0)", 1).due("held(15, 1)", 2)
        .due("held(15, 2)", -1).due("put(0, 0, 9, 0)", 6).due("held(0, 1)", 6)
        .due("erase(15, 0)", 2).due("held(15, 0)", -1).due("held(0, 0)", 6).due("held(0, 1)", -1);
  }

  private static void loggedNumbers() {
    Run run = twoItems("17 \"of the i-th use logged\", \"-1 when there is none such\"");
    run.due("contract(0, 0, 0, 99)", 1).due("logged(0, 0)", -1).due("logged(0, 3)", -1)
        .due("use(0, 0, 9)", 5).due("logged(0, 2)", 9).due("logged(1, 2)", -1)
        .badState("use(1, 0, 8)").due("logged(0, 2)", 9).due("logged(1, 2)", 8)
        .due("logged(1, 0)", 1).due("logged(2, 2)", -1).due("logged(199, 0)", -1)
        .due("logged(200, 0)", -1);
    for (int far : FAR) {
      run.due(Run.with("logged(#, 0)", far), -1).due(Run.with("logged(#, 3)", far), -1);
    }
  }

  private static void loggedWhat() {
    Run run = twoItems("17 \"0 the item, 1 the purpose, 2 the minute, 3 the ground\", \"others\"");
    run.due("purpose(0)", 1).due("purpose(0)", 2).due("contract(15, 0, 0, 10000000)", 1)
        .due("use(1, 2, 10000000)", 6).badState("use(0, 1, 0)").due("logged(0, 0)", 1)
        .due("logged(0, 1)", 2).due("logged(0, 2)", 10000000).due("logged(0, 3)", 2)
        .due("logged(1, 0)", 0).due("logged(1, 1)", 1).due("logged(1, 2)", 0)
        .due("logged(1, 3)", 0).due("logged(0, 4)", -1).due("logged(1, 4)", -1)
        .due("logged(2, 4)", -1).due("logged(2, 0)", -1);
    for (int far : FAR) {
      run.due(Run.with("logged(0, #)", far), -1);
    }
  }

  private static void loggedOutlivesItems() {
    twoItems("17 what was logged stays").due("contract(0, 0, 0, 9)", 1).due("use(0, 0, 9)", 5)
        .due("erase(0, 0)", 1).due("logged(0, 0)", 0).due("logged(0, 2)", 9).due("logged(0, 3)", 2)
        .due("consent(15, 0, true, 0)", 1).due("use(1, 0, 10)", 6).due("logged(0, 3)", 2)
        .due("logged(1, 3)", 1).due("state(4)", 2);
  }

  private static void peekNumbers() {
    Run run = twoItems("18 \"0 when it doesn't live\"");
    run.due("peek(0)", 5).due("peek(1)", 6).due("peek(2)", 0).due("peek(99)", 0)
        .due("peek(100)", 0).due("peek(101)", 0);
    for (int far : FAR) {
      run.due(Run.with("peek(#)", far), 0);
    }
    run.due("erase(15, 0)", 1).due("peek(1)", 0).due("peek(0)", 5).due("put(15, 0, 8, 0)", 2)
        .due("peek(2)", 8).due("peek(1)", 0);
  }

  private static void lookNumbers() {
    Run run = twoItems("19 \"-1 when it doesn't live\"");
    for (int what = 0; what < 5; what++) {
      for (int none : new int[] {-1, 2, 99, 100, Integer.MIN_VALUE, Integer.MAX_VALUE}) {
        run.due("look(" + none + ", " + what + ")", -1);
      }
    }
    run.due("event(0, 0, 3)", 1).due("derive(0, 0, 0)", 2).due("look(0, 0)", 0).due("look(0, 1)", 3)
        .due("look(0, 2)", 1).due("look(0, 3)", 4).due("look(0, 4)", 1).due("look(1, 3)", -1)
        .due("look(1, 4)", 0).due("erase(0, 0)", 2);
    for (int what = 0; what < 5; what++) {
      run.due("look(0, " + what + ")", -1).due("look(2, " + what + ")", -1);
    }
    run.due("look(1, 1)", 4);
  }

  private static void lookWhat() {
    Run run = twoItems("19 \"or for others\"");
    run.due("look(0, 4)", 0).due("look(0, 5)", -1).due("look(1, 5)", -1).due("look(1, 6)", -1);
    for (int far : FAR) {
      run.due(Run.with("look(0, #)", far), -1).due(Run.with("look(2, #)", far), -1);
    }
  }

  private static void lookPersonsAsBits() {
    Run run = new Run("19 \"2 its persons as bits\"");
    run.due("kind(1)", 0);
    for (int person = 0; person < 16; person++) {
      run.due("put(" + person + ", 0, 1, 0)", person).due("look(" + person + ", 2)", 1 << person);
    }
    run.due("derive(1, 0, 15)", 16).due("look(16, 2)", 32769).due("derive(2, 14, 16)", 17)
        .due("look(17, 2)", 49153);
  }

  private static void lookDerivedStraight() {
    Run run = twoItems("19 \"4 how many living items are derived from it straight\"");
    run.due("look(0, 4)", 0).due("derive(0, 0, 0)", 2).due("look(0, 4)", 1).due("derive(1, 0, 1)", 3)
        .due("look(0, 4)", 2).due("look(1, 4)", 1).due("derive(2, 1, 0)", 4).due("look(0, 4)", 3)
        .due("look(1, 4)", 2).due("derive(0, 2, 0)", 5).due("look(0, 4)", 3).due("look(2, 4)", 1)
        .due("look(5, 4)", 0).due("derive(1, 0, 2)", 6).due("look(0, 4)", 4).due("look(2, 4)", 2);
    run.due("derive(0, 0, 1)", 7).due("look(1, 4)", 2).due("look(0, 4)", 5);
    run.due("erase(15, 0)", 2).due("look(0, 4)", 4).due("look(1, 4)", -1).due("look(3, 4)", 0)
        .due("derive(1, 3, 0)", 8).due("look(0, 4)", 5).due("look(3, 4)", 1);
    Run most = new Run("19 ninety-nine that are derived");
    most.due("kind(1)", 0).due("put(0, 0, 5, 3)", 0).dueCounting("derive(0, 0, 0)", 99, 1)
        .due("look(0, 4)", 99).due("look(99, 4)", 0);
  }

  private static void stateWhat() {
    Run run = twoItems("20 \"-1 for others\"");
    run.due("state(5)", 0).due("state(6)", -1).due("state(7)", -1);
    for (int far : FAR) {
      run.due(Run.with("state(#)", far), -1);
    }
  }

  /** Each number differs from the others, so that none stands for another. */
  private static void stateCounts() {
    Run run = new Run("20 each number is of its own");
    run.dueCounting("purpose(0)", 2, 1).dueCounting("kind(1)", 2, 0).dueCounting("put(1, 0, 5, 0)", 4, 0)
        .dueCounting("put(2, 0, 5, 0)", 5, 4).due("derive(0, 0, 0)", 9).dueCounting("hold(2, 0, 9)", 6, 0)
        .due("erase(1, 0)", 5).goes("lift(5, 9)");
    for (int i = 0; i < 7; i++) {
      run.badState("use(4, 0, 0)");
    }
    run.due("state(0)", 3).due("state(1)", 2).due("state(2)", 10).due("state(3)", 5)
        .due("state(4)", 7).due("state(5)", 6);
  }

  private static void questionsChangeNothing() {
    Run run = twoItems("13, 16 to 20 a question is answered again alike");
    run.due("contract(0, 0, 0, 9)", 1).due("use(0, 0, 9)", 5).due("event(0, 0, 3)", 1);
    for (int i = 0; i < 3; i++) {
      run.due("why()", 2).due("held(0, 0)", 0).due("held(0, 1)", -1).due("logged(0, 2)", 9)
          .due("logged(1, 2)", -1).due("peek(0)", 5).due("peek(2)", 0).due("look(0, 3)", 4)
          .due("look(2, 3)", -1).due("state(2)", 2).due("state(3)", 2).due("state(4)", 1)
          .due("state(6)", -1);
    }
  }

  /** "At most 512 calls": the last ones are answered with every table full. */
  private static void lastCall() {
    Run run = new Run("the 512th call");
    run.dueCounting("purpose(0)", 15, 1).dueCounting("kind(1)", 8, 0)
        .dueCounting("consent(0, 15, true, 1)", 100, 1).dueCounting("contract(1, 15, 2, 2)", 40, 1)
        .dueCounting("put(0, 0, 3, 0)", 100, 0).dueCounting("event(0, 0, 0)", 60, 1);
    while (run.callsMade() < 506) {
      run.due("use(99, 15, 1)", 3);
    }
    run.due("state(4)", 183).badState("put(0, 0, 3, 0)").badState("consent(0, 15, false, 1)")
        .due("use(99, 15, 1)", 3).due("sweep(1)", 100).noElement("use(99, 15, 1)");
    if (run.callsMade() != 512) {
      Run.tell("the 512th call: this is call " + run.callsMade());
    }
  }
}
