/** "Due": which events count, the day from which an item is due, and the sweep on that day. */
public final class DueEdgesTest {
  public static void main(String[] args) {
    eventNotBeforeItsDay();
    latestEvent();
    eventOfPersonAndKind();
    derivedItemsAreNotDue();
    sweepOnEachSide();
    shortestAndLongestRetention();
    lastDayOfAll();
    eventsAfterTheSweep();
    wereDueBefore();
    eventsOfErasedItems();
    Run.end();
  }

  private static void eventNotBeforeItsDay() {
    Run run = new Run("\"whose day is not before its own\"");
    run.due("kind(10)", 0).due("put(1, 0, 5, 50)", 0).due("put(1, 0, 5, 49)", 1)
        .due("put(1, 0, 5, 51)", 2).due("look(0, 3)", -1).due("event(1, 0, 50)", 1)
        .due("look(0, 3)", 60).due("look(1, 3)", 60).due("look(2, 3)", -1)
        .due("event(1, 0, 49)", 2).due("look(0, 3)", 60).due("look(1, 3)", 60)
        .due("event(1, 0, 51)", 3).due("look(2, 3)", 61).due("look(0, 3)", 61);
    new Run("an item after the event").due("kind(10)", 0).due("event(1, 0, 49)", 1)
        .due("put(1, 0, 5, 50)", 0).due("look(0, 3)", -1).due("sweep(6944)", 0)
        .due("put(1, 0, 5, 49)", 1).due("look(1, 3)", 59).due("sweep(6944)", 1)
        .due("state(3)", 1);
  }

  private static void latestEvent() {
    new Run("\"from the latest event\", whatever the order of entry").due("kind(10)", 0)
        .due("put(1, 0, 5, 50)", 0).due("event(1, 0, 70)", 1).due("look(0, 3)", 80)
        .due("event(1, 0, 69)", 2).due("look(0, 3)", 80).due("event(1, 0, 70)", 3)
        .due("look(0, 3)", 80).due("event(1, 0, 71)", 4).due("look(0, 3)", 81)
        .due("event(1, 0, 0)", 5).due("look(0, 3)", 81).due("sweep(80)", 0).due("sweep(81)", 1);
  }

  private static void eventOfPersonAndKind() {
    Run run = new Run("\"of its person and kind\"");
    run.due("kind(10)", 0).due("kind(20)", 1).due("put(1, 0, 5, 50)", 0).due("put(2, 0, 5, 50)", 1)
        .due("put(1, 1, 5, 50)", 2).due("event(2, 1, 60)", 1).due("look(0, 3)", -1)
        .due("look(1, 3)", -1).due("look(2, 3)", -1).due("event(1, 0, 60)", 2)
        .due("look(0, 3)", 70).due("look(1, 3)", -1).due("look(2, 3)", -1);
    run.due("event(1, 1, 60)", 3).due("look(2, 3)", 80).due("look(0, 3)", 70)
        .due("event(2, 0, 61)", 4).due("look(1, 3)", 71).due("look(0, 3)", 70)
        .due("sweep(69)", 0).due("sweep(70)", 1).due("sweep(79)", 1).due("sweep(80)", 1);
    new Run("of the first and the last person").due("kind(1)", 0).due("put(0, 0, 5, 0)", 0)
        .due("put(15, 0, 5, 0)", 1).due("event(0, 0, 0)", 1).due("look(0, 3)", 1)
        .due("look(1, 3)", -1).due("event(15, 0, 6)", 2).due("look(1, 3)", 7).due("look(0, 3)", 1);
  }

  private static void derivedItemsAreNotDue() {
    new Run("\"an item that was put\"").due("kind(10)", 0).due("put(1, 0, 5, 50)", 0)
        .due("put(2, 0, 6, 50)", 1).due("derive(0, 0, 0)", 2).due("derive(1, 0, 1)", 3)
        .due("derive(2, 0, 1)", 4).due("event(1, 0, 60)", 1).due("look(0, 3)", 70)
        .due("look(2, 3)", -1).due("look(3, 3)", -1).due("look(4, 3)", -1).due("sweep(69)", 0)
        .due("sweep(70)", 3).due("state(3)", 2).due("peek(3)", 6).due("look(3, 3)", -1)
        .due("sweep(6944)", 0);
  }

  private static void sweepOnEachSide() {
    for (int day = 0; day <= 2; day++) {
      new Run("15 \"due on a day or were before\"").due("kind(10)", 0).due("put(1, 0, 5, 50)", 0)
          .due("event(1, 0, 55)", 1).due("look(0, 3)", 65)
          .due(Run.with("sweep(#)", 64 + day), day == 0 ? 0 : 1).due("state(3)", day == 0 ? 1 : 0);
    }
  }

  private static void shortestAndLongestRetention() {
    new Run("\"retention days on\", 1 and 5,000").due("kind(1)", 0).due("kind(5000)", 1)
        .due("put(1, 0, 5, 0)", 0).due("put(1, 1, 6, 0)", 1).due("event(1, 0, 0)", 1)
        .due("event(1, 1, 0)", 2).due("look(0, 3)", 1).due("look(1, 3)", 5000).due("sweep(0)", 0)
        .due("sweep(1)", 1).due("sweep(4999)", 0).due("sweep(5000)", 1);
  }

  private static void lastDayOfAll() {
    Run run = new Run("due on the last day, or after it");
    run.due("kind(5000)", 0).due("put(1, 0, 5, 1944)", 0).due("put(2, 0, 6, 1945)", 1)
        .due("put(3, 0, 7, 6944)", 2).due("event(1, 0, 1944)", 1).due("event(2, 0, 1945)", 2)
        .due("event(3, 0, 6944)", 3).due("look(0, 3)", 6944).due("look(1, 3)", 6945)
        .due("look(2, 3)", 11944).due("sweep(6943)", 0).due("sweep(6944)", 1).due("state(3)", 2)
        .due("peek(0)", 0).due("sweep(6944)", 0);
  }

  private static void eventsAfterTheSweep() {
    new Run("15 an event later than the day of the sweep is the latest, too").due("kind(10)", 0)
        .due("put(1, 0, 5, 50)", 0).due("event(1, 0, 50)", 1).due("event(1, 0, 200)", 2)
        .due("look(0, 3)", 210).due("sweep(100)", 0).due("sweep(209)", 0).due("sweep(210)", 1);
  }

  private static void wereDueBefore() {
    new Run("15 all that are due, each by its own day").due("kind(10)", 0).due("kind(11)", 1)
        .due("put(1, 0, 5, 50)", 0).due("put(2, 0, 6, 50)", 1).due("put(1, 1, 7, 50)", 2)
        .due("put(3, 0, 8, 50)", 3).due("event(1, 0, 50)", 1).due("event(2, 0, 51)", 2)
        .due("event(1, 1, 50)", 3).due("event(3, 0, 52)", 4).due("sweep(59)", 0)
        .due("sweep(61)", 3).due("state(3)", 1).due("peek(3)", 8).due("sweep(60)", 0)
        .due("sweep(62)", 1);
  }

  private static void eventsOfErasedItems() {
    new Run("events outlive the items").due("kind(10)", 0).due("put(1, 0, 5, 50)", 0)
        .due("event(1, 0, 55)", 1).due("sweep(65)", 1).due("look(0, 3)", -1).due("sweep(65)", 0)
        .due("put(1, 0, 6, 55)", 1).due("look(1, 3)", 65).due("put(1, 0, 7, 56)", 2)
        .due("look(2, 3)", -1).due("sweep(64)", 0).due("sweep(65)", 1).due("peek(2)", 7)
        .due("event(1, 0, 56)", 2).due("sweep(66)", 1);
  }
}
