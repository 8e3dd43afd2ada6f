/** Promises 9 to 11: events, holds, and lifting them. */
public final class EventsAndHoldsTest {
  public static void main(String[] args) {
    event();
    eventsAndDue();
    hold();
    lift();
    liftedOnItsFirstDay();
    Run.end();
  }

  private static void event() {
    Run run = new Run("9 event");
    run.badArgument("event(0, 0, 1)").due("kind(5)", 0).badArgument("event(-1, 0, 1)")
        .badArgument("event(16, 0, 1)").badArgument("event(0, -1, 1)").badArgument("event(0, 1, 1)")
        .badArgument("event(0, 0, -1)").badArgument("event(0, 0, 6945)");
    run.due("event(0, 0, 0)", 1).due("event(15, 0, 6944)", 2).dueCounting("event(3, 0, 9)", 58, 3);
    run.badState("event(3, 0, 9)").badArgument("event(16, 0, 9)").badArgument("event(3, 1, 9)")
        .badArgument("event(3, 0, -1)");
  }

  private static void eventsAndDue() {
    Run run = new Run("9 events make due");
    run.due("kind(10)", 0).due("kind(5000)", 1).due("put(4, 0, 1, 50)", 0).due("put(4, 1, 1, 50)", 1)
        .due("put(5, 0, 1, 50)", 2).due("derive(0, 0, 0)", 3);
    run.due("look(0, 3)", -1).due("event(4, 0, 49)", 1).due("look(0, 3)", -1)
        .due("event(4, 0, 50)", 2).due("look(0, 3)", 60).due("event(4, 0, 70)", 3).due("look(0, 3)", 80)
        .due("event(4, 0, 60)", 4).due("look(0, 3)", 80);
    run.due("look(1, 3)", -1).due("look(2, 3)", -1).due("look(3, 3)", -1);
    run.due("event(4, 1, 6944)", 5).due("look(1, 3)", 11944).due("look(0, 3)", 80)
        .due("look(2, 3)", -1);
  }

  private static void hold() {
    Run run = new Run("10 hold");
    run.badArgument("hold(100, 0, 0)").due("kind(5)", 0);
    run.badArgument("hold(-1, 0, 0)").badArgument("hold(16, 0, 0)").badArgument("hold(99, 0, 0)")
        .badArgument("hold(101, 0, 0)").badArgument("hold(0, -1, 0)").badArgument("hold(0, 1, 0)")
        .badArgument("hold(0, 0, -1)").badArgument("hold(0, 0, 6945)").badArgument("hold(100, 0, 6945)")
        .badArgument("hold(-2147483648, 0, 0)").badArgument("hold(2147483647, 0, 0)")
        .due("state(5)", 0);
    run.due("hold(0, 0, 0)", 0).due("hold(15, 0, 6944)", 1).due("hold(100, 0, 3)", 2)
        .goes("lift(0, 0)").dueCounting("hold(1, 0, 3)", 27, 3).due("state(5)", 30);
    run.badState("hold(1, 0, 3)").badState("hold(100, 0, 3)").badArgument("hold(16, 0, 3)")
        .badArgument("hold(101, 0, 3)").badArgument("hold(1, 1, 3)").badArgument("hold(1, 0, 6945)")
        .due("state(5)", 30);
  }

  private static void lift() {
    Run run = new Run("11 lift");
    run.due("kind(5)", 0).due("put(2, 0, 8, 1)", 0).badArgument("lift(0, 5)")
        .due("hold(2, 0, 10)", 0).due("hold(100, 0, 6944)", 1);
    run.badArgument("lift(-1, 20)").badArgument("lift(2, 20)").badArgument("lift(0, 9)")
        .badArgument("lift(0, 6945)").badArgument("lift(1, 6943)").badArgument("lift(0, -1)")
        .badArgument("lift(2147483647, 0)").badArgument("lift(-2147483648, 0)");
    run.due("use(0, 0, 28800)", 8).goes("lift(0, 20)").badState("use(0, 0, 28800)")
        .due("use(0, 0, 28799)", 8).due("use(0, 0, 14400)", 8).badState("use(0, 0, 14399)");
    run.badState("lift(0, 20)").badState("lift(0, 10)").badState("lift(0, 6944)")
        .badArgument("lift(0, 9)").badArgument("lift(0, 6945)").due("state(5)", 2);
    run.due("use(0, 0, 9999360)", 8).goes("lift(1, 6944)").badState("use(0, 0, 9999360)")
        .badState("lift(1, 6944)");
  }

  private static void liftedOnItsFirstDay() {
    Run run = new Run("11 a hold lifted on its first day covers no day");
    run.due("kind(5)", 0).due("put(2, 0, 8, 1)", 0).due("hold(2, 0, 10)", 0).goes("lift(0, 10)")
        .badState("use(0, 0, 14400)").badState("use(0, 0, 14399)").badState("lift(0, 11)")
        .due("erase(2, 14400)", 1);
  }
}
