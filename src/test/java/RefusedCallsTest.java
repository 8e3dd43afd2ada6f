/** Of several exceptions the one told first; and a refused call leaves later answers as they were. */
public final class RefusedCallsTest {
  public static void main(String[] args) {
    fullAndWrongPurpose();
    fullAndWrongKind();
    fullAndWrongConsent();
    fullAndWrongContract();
    fullAndWrongDuty();
    fullAndWrongItem();
    fullAndWrongEvent();
    fullAndWrongHold();
    liftedAndWrong();
    deriveOrder();
    useOrder();
    refusedEntriesGiveNoGround();
    refusedEventsMakeNothingDue();
    refusedHoldsCoverNothing();
    refusedLiftsLiftNothing();
    refusedItemsAreNotThere();
    refusedUsesAreNotLogged();
    refusedErasuresEraseNothing();
    Run.end();
  }

  private static void fullAndWrongPurpose() {
    new Run("2 full, and no such parent").dueCounting("purpose(0)", 15, 1)
        .outside("purpose(#)", 0, 15).badState("purpose(15)").badState("purpose(0)");
  }

  private static void fullAndWrongKind() {
    new Run("3 full, and no such retention").dueCounting("kind(1)", 8, 0)
        .outside("kind(#)", 1, 5000).badState("kind(1)").badState("kind(5000)");
  }

  private static void fullAndWrongConsent() {
    new Run("4 full, and an argument is wrong").dueCounting("consent(0, 0, true, 0)", 100, 1)
        .outside("consent(#, 0, true, 0)", 0, 15).outside("consent(0, #, true, 0)", 0, 0)
        .outside("consent(0, 0, true, #)", 0, 10000000).badState("consent(0, 0, true, 0)")
        .badState("consent(15, 0, false, 10000000)");
  }

  private static void fullAndWrongContract() {
    new Run("5 full, and an argument is wrong").dueCounting("contract(0, 0, 0, 0)", 40, 1)
        .outside("contract(#, 0, 0, 0)", 0, 15).outside("contract(0, #, 0, 0)", 0, 0)
        .outside("contract(0, 0, #, 5)", 0, 5).outside("contract(0, 0, 5, #)", 5, 10000000)
        .badState("contract(0, 0, 0, 0)").badState("contract(15, 0, 0, 10000000)");
  }

  private static void fullAndWrongDuty() {
    new Run("6 full, and an argument is wrong").due("kind(1)", 0)
        .dueCounting("duty(0, 0, 1)", 20, 1).outside("duty(#, 0, 1)", 0, 0)
        .outside("duty(0, #, 1)", 0, 0).outside("duty(0, 0, #)", 1, 5000)
        .badState("duty(0, 0, 1)").badState("duty(0, 0, 5000)");
  }

  private static void fullAndWrongItem() {
    Run run = new Run("7, 8 full, and an argument is wrong");
    run.due("kind(1)", 0).dueCounting("put(0, 0, 1, 1)", 100, 0)
        .outside("put(#, 0, 1, 1)", 0, 15).outside("put(0, #, 1, 1)", 0, 0)
        .outside("put(0, 0, 1, #)", 0, 6944).badState("put(0, 0, 1, 1)");
    run.outside("derive(#, 0, 1)", 0, 2).badArgument("derive(1, 5, 5)")
        .badArgument("derive(2, 5, 5)").noElement("derive(0, 100, 0)").noElement("derive(0, -1, 0)")
        .noElement("derive(1, 0, 100)").noElement("derive(1, 100, 0)").noElement("derive(2, 0, -1)")
        .noElement("derive(2, -1, 0)").badState("derive(0, 5, 5)").badState("derive(0, 5, 100)")
        .badState("derive(1, 5, 6)").badState("derive(2, 5, 6)");
  }

  private static void fullAndWrongEvent() {
    new Run("9 full, and an argument is wrong").due("kind(1)", 0)
        .dueCounting("event(0, 0, 1)", 60, 1).outside("event(#, 0, 1)", 0, 15)
        .outside("event(0, #, 1)", 0, 0).outside("event(0, 0, #)", 0, 6944)
        .badState("event(0, 0, 1)").badState("event(15, 0, 6944)");
  }

  private static void fullAndWrongHold() {
    new Run("10 full, and an argument is wrong").due("kind(1)", 0)
        .dueCounting("hold(0, 0, 1)", 30, 0).outside("hold(#, 0, 1)", 0, 15)
        .outside("hold(#, 0, 1)", 100, 100).outside("hold(0, #, 1)", 0, 0)
        .outside("hold(0, 0, #)", 0, 6944).badState("hold(0, 0, 1)").badState("hold(100, 0, 6944)");
  }

  private static void liftedAndWrong() {
    new Run("11 lifted, and the day is wrong").due("hold(0, 0, 10)", 0).goes("lift(0, 20)")
        .outside("lift(0, #)", 10, 6944).badState("lift(0, 10)").badState("lift(0, 19)")
        .badState("lift(0, 20)").badState("lift(0, 6944)").badArgument("lift(1, 20)");
  }

  private static void deriveOrder() {
    Run run = new Run("8 \"the first of these\"");
    run.due("kind(1)", 0).due("put(0, 0, 1, 1)", 0).due("put(1, 0, 1, 1)", 1).due("erase(1, 0)", 1);
    run.badArgument("derive(3, 0, 1)").badArgument("derive(-1, 1, 0)").badArgument("derive(3, 9, 9)")
        .badArgument("derive(1, 1, 1)").badArgument("derive(2, 1, 1)").badArgument("derive(1, 9, 9)")
        .badArgument("derive(2, -1, -1)").badArgument("derive(1, 0, 0)");
    run.noElement("derive(0, 1, 1)").noElement("derive(0, 9, 9)").noElement("derive(1, 0, 1)")
        .noElement("derive(2, 1, 0)").due("derive(0, 0, 0)", 2).due("derive(0, 0, 1)", 3);
  }

  private static void useOrder() {
    Run run = new Run("12 \"the first of these\"");
    run.due("kind(1)", 0).due("put(0, 0, 1, 1)", 0).due("put(1, 0, 1, 1)", 1).due("erase(1, 0)", 1);
    run.badArgument("use(1, 1, 0)").badArgument("use(1, 0, -1)").badArgument("use(9, -1, 0)")
        .badArgument("use(-1, 0, 10000001)").badArgument("use(0, 1, 0)")
        .badArgument("use(0, 0, 10000001)");
    run.noElement("use(1, 0, 0)").noElement("use(9, 0, 0)").badState("use(0, 0, 0)")
        .due("state(4)", 1).due("why()", 0);
  }

  private static void refusedEntriesGiveNoGround() {
    Run run = new Run("4 to 6 a refused entry is no ground");
    run.due("kind(1)", 0).due("put(0, 0, 5, 0)", 0).due("put(15, 0, 6, 0)", 1);
    run.outside("consent(#, 0, true, 0)", 0, 15).outside("consent(0, #, true, 0)", 0, 0)
        .outside("consent(0, 0, true, #)", 0, 10000000).badState("use(0, 0, 0)")
        .badState("use(1, 0, 10000000)");
    run.outside("contract(#, 0, 0, 10000000)", 0, 15).outside("contract(0, #, 0, 10000000)", 0, 0)
        .badArgument("contract(0, 0, -1, 10000000)").badArgument("contract(0, 0, 0, 10000001)")
        .badArgument("contract(15, 0, 6, 5)").badState("use(0, 0, 0)").badState("use(0, 0, 10000000)")
        .badState("use(1, 0, 5)").badState("use(1, 0, 6)");
    run.outside("duty(#, 0, 9)", 0, 0).outside("duty(0, #, 9)", 0, 0).outside("duty(0, 0, #)", 1, 5000)
        .badState("use(0, 0, 0)").badState("use(1, 0, 10)");
    run.due("consent(0, 0, false, 0)", 1).badArgument("consent(0, 0, true, 10000001)")
        .badArgument("consent(0, 1, true, 0)").badState("use(0, 0, 10000000)")
        .due("contract(0, 0, 1, 1)", 1).due("use(0, 0, 1)", 5).due("duty(0, 0, 1)", 1);
  }

  private static void refusedEventsMakeNothingDue() {
    new Run("9 a refused event makes nothing due").due("kind(1)", 0).due("put(0, 0, 5, 0)", 0)
        .due("put(15, 0, 5, 0)", 1).outside("event(#, 0, 5)", 0, 15).outside("event(0, #, 5)", 0, 0)
        .outside("event(15, 0, #)", 0, 6944).due("look(0, 3)", -1).due("look(1, 3)", -1)
        .due("sweep(6944)", 0).due("event(0, 0, 5)", 1).due("look(0, 3)", 6)
        .badArgument("event(0, 0, 6945)").due("look(0, 3)", 6);
  }

  private static void refusedHoldsCoverNothing() {
    new Run("10 a refused hold covers nothing").due("kind(1)", 0).due("put(0, 0, 5, 0)", 0)
        .due("consent(0, 0, true, 0)", 1).badArgument("hold(0, 1, 0)").badArgument("hold(0, 0, -1)")
        .badArgument("hold(0, 0, 6945)").badArgument("hold(16, 0, 0)").badArgument("hold(100, 1, 0)")
        .badArgument("hold(101, 0, 0)").due("state(5)", 0).due("use(0, 0, 10000000)", 5)
        .due("why()", 1).badArgument("lift(0, 0)").due("erase(0, 10000000)", 1)
        .due("hold(0, 0, 0)", 0);
  }

  private static void refusedLiftsLiftNothing() {
    Run run = new Run("11 a refused lift lifts nothing, and does not lift anew");
    run.due("kind(1)", 0).due("put(0, 0, 5, 0)", 0).due("hold(0, 0, 10)", 0)
        .badArgument("lift(0, 9)").badArgument("lift(0, 6945)").badArgument("lift(1, 10)")
        .due("use(0, 0, 14400)", 5).due("use(0, 0, 10000000)", 5).goes("lift(0, 20)");
    run.badState("lift(0, 15)").badState("lift(0, 30)").badArgument("lift(0, 9)")
        .badArgument("lift(0, 6945)").badState("use(0, 0, 14399)").due("use(0, 0, 14400)", 5)
        .due("use(0, 0, 28799)", 5).badState("use(0, 0, 28800)").due("erase(0, 28799)", 0)
        .due("erase(0, 28800)", 1);
  }

  private static void refusedItemsAreNotThere() {
    Run run = new Run("7, 8 a refused item takes no number and has no inputs");
    run.due("kind(1)", 0).due("put(0, 0, 5, 0)", 0).outside("put(#, 0, 1, 0)", 0, 15)
        .outside("put(0, #, 1, 0)", 0, 0).outside("put(0, 0, 1, #)", 0, 6944).due("state(2)", 1)
        .due("state(3)", 1).due("held(0, 1)", -1).due("peek(1)", 0).due("put(1, 0, 7, 0)", 1);
    run.badArgument("derive(3, 0, 1)").badArgument("derive(1, 0, 0)").noElement("derive(1, 0, 2)")
        .noElement("derive(2, 2, 1)").due("state(2)", 2).due("state(3)", 2).due("look(0, 4)", 0)
        .due("look(1, 4)", 0).due("held(0, 1)", -1).due("held(1, 1)", -1).due("derive(1, 0, 1)", 2);
  }

  private static void refusedUsesAreNotLogged() {
    Run run = new Run("12, 13 \"neither is logged\"; a use without a ground is");
    run.due("kind(1)", 0).due("put(0, 0, 5, 0)", 0).due("put(1, 0, 6, 0)", 1).due("erase(1, 0)", 1)
        .badArgument("use(0, 1, 0)").noElement("use(1, 0, 0)").noElement("use(2, 0, 0)")
        .due("state(4)", 0).due("why()", -1).due("logged(0, 0)", -1);
    run.badState("use(0, 0, 3)").due("state(4)", 1).due("why()", 0).due("logged(0, 0)", 0)
        .due("logged(0, 2)", 3).due("logged(0, 3)", 0);
    run.due("contract(0, 0, 4, 4)", 1).due("use(0, 0, 4)", 5).due("why()", 2)
        .badArgument("use(0, 1, 3)").badArgument("use(0, 0, -1)").noElement("use(1, 0, 3)")
        .due("why()", 2).due("state(4)", 2).due("logged(1, 2)", 4).due("logged(2, 2)", -1);
    run.badState("use(0, 0, 3)").due("why()", 0).noElement("use(1, 0, 4)").due("why()", 0)
        .due("state(4)", 3);
  }

  private static void refusedErasuresEraseNothing() {
    new Run("14, 15 a refused erase or sweep erases nothing").due("kind(1)", 0)
        .due("put(0, 0, 5, 0)", 0).due("event(0, 0, 0)", 1).outside("erase(#, 0)", 0, 15)
        .outside("erase(0, #)", 0, 10000000).outside("sweep(#)", 0, 6944).due("state(3)", 1)
        .due("peek(0)", 5).due("look(0, 3)", 1).due("sweep(6944)", 1);
  }
}
