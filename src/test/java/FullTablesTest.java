/**
 * How many there may be: the last one that is taken works, the one too many is refused, however
 * often it is tried, and works nothing.
 */
public final class FullTablesTest {
  public static void main(String[] args) {
    sixteenPurposes();
    eightKinds();
    hundredConsents();
    fortyContracts();
    twentyDuties();
    hundredPutItems();
    hundredDerivedItems();
    erasedItemsCount();
    sixtyEvents();
    thirtyHolds();
    liftedHoldsCount();
    twoHundredUses();
    logStaysFull();
    Run.end();
  }

  private static void sixteenPurposes() {
    Run run = new Run("2 \"there are 16\"");
    run.dueCounting("purpose(0)", 14, 1).due("state(0)", 15).due("purpose(14)", 15)
        .due("state(0)", 16).badState("purpose(0)").badState("purpose(15)").due("state(0)", 16);
    run.badArgument("purpose(16)").badArgument("consent(0, 16, true, 0)").due("kind(1)", 0)
        .due("put(0, 0, 5, 0)", 0).due("consent(0, 14, true, 0)", 1).due("use(0, 15, 0)", 5)
        .due("use(0, 14, 0)", 5).badState("use(0, 13, 0)").badArgument("use(0, 16, 0)");
  }

  private static void eightKinds() {
    Run run = new Run("3 \"there are 8\"");
    run.dueCounting("kind(10)", 7, 0).due("state(1)", 7).due("kind(20)", 7).due("state(1)", 8)
        .badState("kind(30)").badState("kind(1)").badState("kind(5000)").due("state(1)", 8);
    run.badArgument("put(0, 8, 5, 0)").badArgument("event(0, 8, 0)").badArgument("duty(8, 0, 1)")
        .badArgument("hold(108, 0, 0)");
    run.due("put(0, 7, 5, 0)", 0).due("put(0, 6, 5, 0)", 1).due("event(0, 7, 3)", 1)
        .due("event(0, 6, 3)", 2).due("look(0, 3)", 23).due("look(1, 3)", 13);
  }

  private static void hundredConsents() {
    Run run = new Run("4 \"there are 100\"");
    run.due("kind(1)", 0).due("put(0, 0, 5, 0)", 0).due("put(1, 0, 6, 0)", 1)
        .dueCounting("consent(2, 0, true, 9)", 99, 1).badState("use(0, 0, 9)");
    run.due("consent(0, 0, true, 9)", 100).due("use(0, 0, 9)", 5);
    run.badState("consent(0, 0, false, 9)").badState("consent(1, 0, true, 9)")
        .due("use(0, 0, 9)", 5).badState("use(1, 0, 9)").badState("consent(15, 0, true, 10000000)");
  }

  private static void fortyContracts() {
    Run run = new Run("5 \"there are 40\"");
    run.due("kind(1)", 0).due("put(0, 0, 5, 0)", 0).due("put(1, 0, 6, 0)", 1)
        .dueCounting("contract(2, 0, 0, 99)", 39, 1).badState("use(0, 0, 9)");
    run.due("contract(0, 0, 9, 9)", 40).due("use(0, 0, 9)", 5).badState("contract(0, 0, 10, 10)")
        .badState("contract(1, 0, 0, 99)").badState("use(0, 0, 10)").badState("use(1, 0, 9)")
        .due("use(0, 0, 9)", 5);
  }

  private static void twentyDuties() {
    Run run = new Run("6 \"there are 20\"");
    run.due("kind(1)", 0).due("kind(1)", 1).due("kind(1)", 2).due("put(0, 0, 5, 3)", 0)
        .due("put(1, 1, 6, 3)", 1).dueCounting("duty(2, 0, 5000)", 19, 1)
        .badState("use(0, 0, 5000)");
    run.due("duty(0, 0, 5)", 20).due("use(0, 0, 5000)", 5).badState("duty(0, 0, 5000)")
        .badState("duty(1, 0, 5000)").badState("use(0, 0, 11520)").badState("use(1, 0, 5000)");
    run.due("erase(0, 5000)", 0).due("erase(1, 5000)", 1).due("erase(0, 11520)", 1);
  }

  private static void hundredPutItems() {
    Run run = new Run("7 \"there were 100\"");
    run.due("kind(1)", 0).dueCounting("put(0, 0, 5, 3)", 99, 0).due("state(2)", 99)
        .due("put(7, 0, 8, 4)", 99).due("state(2)", 100).badState("put(7, 0, 9, 5)")
        .badState("put(8, 0, 9, 5)").badState("derive(0, 99, 0)").badState("derive(1, 98, 99)")
        .badState("derive(2, 98, 99)");
    run.due("state(2)", 100).due("state(3)", 100).due("peek(99)", 8).due("peek(100)", 0)
        .due("look(99, 1)", 4).due("look(99, 4)", 0).due("look(100, 0)", -1).due("held(7, 0)", 99)
        .due("held(7, 1)", -1).due("held(8, 0)", -1).noElement("use(100, 0, 0)");
  }

  private static void hundredDerivedItems() {
    Run run = new Run("8 \"there were 100\"");
    run.due("kind(1)", 0).due("put(0, 0, 5, 3)", 0).due("put(1, 0, 7, 3)", 1)
        .dueCounting("derive(0, 0, 0)", 97, 2).due("derive(1, 0, 1)", 99).due("state(2)", 100);
    run.badState("derive(0, 0, 0)").badState("derive(1, 0, 1)").badState("derive(2, 0, 1)")
        .badState("put(0, 0, 5, 3)").due("state(2)", 100).due("look(0, 4)", 98)
        .due("look(1, 4)", 1).due("peek(99)", 12);
  }

  private static void erasedItemsCount() {
    Run run = new Run("7, 8 \"there were 100\": those that were erased count, too");
    run.due("kind(1)", 0).dueCounting("put(0, 0, 5, 3)", 98, 0).due("put(1, 0, 5, 3)", 98)
        .due("erase(0, 0)", 98).due("state(3)", 1).due("state(2)", 99).due("derive(0, 98, 0)", 99)
        .badState("derive(0, 98, 0)").badState("put(0, 0, 5, 3)").due("erase(1, 0)", 2)
        .due("state(3)", 0).due("state(2)", 100).badState("put(0, 0, 5, 3)")
        .noElement("derive(0, 98, 0)");
  }

  private static void sixtyEvents() {
    Run run = new Run("9 \"there are 60\"");
    run.due("kind(5)", 0).due("put(0, 0, 5, 3)", 0).due("put(1, 0, 5, 3)", 1)
        .dueCounting("event(2, 0, 9)", 59, 1).due("look(0, 3)", -1).due("event(0, 0, 9)", 60)
        .due("look(0, 3)", 14);
    run.badState("event(0, 0, 10)").badState("event(1, 0, 9)").due("look(0, 3)", 14)
        .due("look(1, 3)", -1).due("sweep(13)", 0).due("sweep(14)", 1).due("sweep(6944)", 0)
        .due("state(3)", 1);
  }

  private static void thirtyHolds() {
    Run run = new Run("10 \"there are 30\"");
    run.due("kind(5)", 0).due("put(0, 0, 5, 3)", 0).due("put(1, 0, 6, 3)", 1)
        .dueCounting("hold(2, 0, 0)", 29, 0).due("state(5)", 29).badState("use(0, 0, 0)")
        .due("hold(0, 0, 0)", 29).due("use(0, 0, 0)", 5).due("state(5)", 30);
    run.badState("hold(1, 0, 0)").badState("hold(100, 0, 0)").due("state(5)", 30)
        .badState("use(1, 0, 0)").badArgument("lift(30, 0)").due("erase(1, 0)", 1)
        .due("erase(0, 0)", 0).goes("lift(29, 0)").due("erase(0, 0)", 1);
  }

  private static void liftedHoldsCount() {
    Run run = new Run("10 \"there are 30\": those that were lifted count, too");
    run.dueCounting("hold(2, 0, 0)", 30, 0).goes("lift(0, 0)").goes("lift(29, 5)")
        .badState("hold(2, 0, 0)").due("state(5)", 30);
  }

  private static void twoHundredUses() {
    Run run = new Run("12 \"as long as there are fewer than 200\"");
    run.due("kind(5)", 0).due("put(0, 0, 5, 3)", 0).due("contract(0, 0, 0, 198)", 1);
    for (int minute = 0; minute < 199; minute++) {
      run.due(Run.with("use(0, 0, #)", minute), 5);
    }
    run.due("state(4)", 199).due("logged(198, 2)", 198).due("logged(199, 2)", -1);
    run.badState("use(0, 0, 199)").due("state(4)", 200).due("logged(199, 2)", 199)
        .due("logged(199, 3)", 0).due("why()", 0);
    run.due("use(0, 0, 7)", 5).due("why()", 2).due("state(4)", 200).due("logged(199, 2)", 199)
        .due("logged(0, 2)", 0).due("logged(200, 2)", -1);
    run.badState("use(0, 0, 300)").due("why()", 0).due("state(4)", 200)
        .due("logged(199, 2)", 199).due("logged(200, 2)", -1);
  }

  private static void logStaysFull() {
    Run run = new Run("12 uses without a ground fill the log");
    run.due("kind(5)", 0).due("put(0, 0, 5, 3)", 0);
    for (int i = 0; i < 200; i++) {
      run.badState("use(0, 0, 0)");
    }
    run.due("state(4)", 200).due("consent(0, 0, true, 0)", 1).due("use(0, 0, 0)", 5)
        .due("why()", 1).due("logged(199, 3)", 0).noElement("use(1, 0, 0)")
        .badArgument("use(0, 1, 0)").due("why()", 1).due("erase(0, 0)", 1)
        .noElement("use(0, 0, 0)").due("why()", 1).due("state(4)", 200);
  }
}
