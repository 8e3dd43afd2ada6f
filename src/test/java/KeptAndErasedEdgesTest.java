/** "Kept" and "to erase": the first and the last day that keeps, what keeps what, what goes along. */
public final class KeptAndErasedEdgesTest {
  public static void main(String[] args) {
    heldByPersonOrKind();
    keptByDuty();
    keptByOtherPurposes();
    keptByADerivedOnesPerson();
    keptByADerivedOnesDay();
    keptByADerivedOnesKind();
    keptThroughAChain();
    keptByASum();
    notKeptByTheDead();
    notKeptByWhatIsNotKept();
    inputsDoNotKeep();
    copiesGoAlong();
    flagsGoAlong();
    sumsStayWithOneInput();
    andSoOn();
    putItemsOfThePerson();
    keptOnesStayOthersGo();
    wordsOfErasedItems();
    nothingToErase();
    sweepKeepsOnItsDay();
    Run.end();
  }

  /** Of an item on day 10, after these entries: whether erase and sweep take it on a day. */
  private static void keptFromTo(String name, String entries, int first, int last) {
    int[] days = {first - 1, first, last, last + 1};
    for (int i = 0; i < days.length; i++) {
      int gone = i == 0 || i == 3 ? 1 : 0;
      int minute = days[i] * 1440;
      prepared(name, entries).due("erase(1, " + minute + ")", gone).due("state(3)", 1 - gone);
      prepared(name, entries).due("erase(1, " + (minute + 1439) + ")", gone)
          .due("peek(0)", 5 - 5 * gone);
      prepared(name, entries).due("sweep(" + days[i] + ")", gone).due("state(3)", 1 - gone);
    }
  }

  /** The retention is one day, and the event on the item's own, so that it is due from day 11 on. */
  private static Run prepared(String name, String entries) {
    Run run = new Run(name).due("kind(1)", 0).due("purpose(0)", 1).due("put(1, 0, 5, 10)", 0)
        .due("event(1, 0, 10)", 1);
    for (String entry : entries.split("; ")) {
      run.due(entry, entry.startsWith("lift") ? "nothing" : entry.startsWith("hold") ? "0" : "1");
    }
    return run;
  }

  private static void heldByPersonOrKind() {
    keptFromTo("kept by a hold of its person", "hold(1, 0, 20); lift(0, 30)", 20, 29);
    keptFromTo("kept by a hold of its kind", "hold(100, 1, 20); lift(0, 30)", 20, 29);
    keptFromTo("kept by a hold of one day", "hold(1, 0, 20); lift(0, 21)", 20, 20);
    prepared("a hold that was lifted on its first day", "hold(1, 0, 20); lift(0, 20)")
        .due("erase(1, 28800)", 1);
    prepared("a hold that was not lifted", "hold(1, 0, 20)").due("erase(1, 10000000)", 0)
        .due("sweep(6944)", 0).due("erase(1, 28799)", 1);
    prepared("a hold from the last day on", "hold(100, 0, 6944)").due("erase(1, 9999360)", 0)
        .due("sweep(6944)", 0).due("sweep(6943)", 1);
    prepared("a hold of another person", "hold(2, 0, 0)").due("erase(1, 28800)", 1);
    new Run("a hold of another kind").due("kind(1)", 0).due("kind(1)", 1).due("put(1, 0, 5, 10)", 0)
        .due("hold(101, 0, 0)", 0).due("erase(1, 28800)", 1);
  }

  private static void keptByDuty() {
    Run run = new Run("a duty covers \"on the days said at 3\"");
    run.due("kind(1)", 0).due("kind(1)", 1).due("duty(0, 0, 3)", 1);
    for (int person = 0; person < 6; person++) {
      run.due("put(" + person + ", 0, 5, 10)", person);
    }
    run.due("put(6, 1, 5, 10)", 6).due("erase(0, 14399)", 1).due("erase(1, 14400)", 0)
        .due("erase(2, 18719)", 0).due("erase(3, 18720)", 1).due("erase(6, 14400)", 1)
        .due("state(3)", 4).due("duty(0, 0, 5000)", 2).due("erase(4, 7214399)", 0)
        .due("erase(4, 7214400)", 1).due("erase(5, 0)", 1);
  }

  private static void keptByOtherPurposes() {
    new Run("a duty covers \"whatever its purpose\"").due("kind(1)", 0).due("purpose(0)", 1)
        .due("duty(0, 1, 1)", 1).due("put(1, 0, 5, 10)", 0).badState("use(0, 0, 14400)")
        .due("erase(1, 14400)", 0).due("erase(1, 15840)", 1);
  }

  private static void keptByADerivedOnesPerson() {
    for (int how = 0; how < 3; how++) {
      Run run = new Run("kept by what is derived and held by its person, way " + how);
      run.due("kind(1)", 0).due("put(1, 0, 5, 0)", 0).due("put(2, 0, 6, 0)", 1)
          .due("derive(1, 0, 1)", 2).due("derive(" + how + ", 2, 0)", 3).due("put(1, 0, 7, 0)", 4)
          .due("hold(2, 0, 20)", 0).goes("lift(0, 30)");
      run.due("erase(1, 28800)", 1).due("peek(4)", 0).due("peek(0)", 5).due("erase(1, 43199)", 0)
          .due("state(3)", 4);
      run.due("erase(2, 28799)", 1).due("peek(2)", 5).due("erase(1, 43199)", 0)
          .due("erase(1, 43200)", 3).due("state(3)", 0);
    }
  }

  private static void keptByADerivedOnesDay() {
    new Run("kept by what is derived and covered on its own, later day").due("kind(1)", 0)
        .due("put(1, 0, 5, 0)", 0).due("put(2, 0, 6, 20)", 1).due("derive(2, 0, 1)", 2)
        .due("duty(0, 0, 2)", 1).due("erase(1, 28800)", 0).due("erase(1, 31679)", 0)
        .due("erase(1, 2879)", 0).due("erase(1, 28799)", 2).due("state(3)", 1);
    new Run("the same on the day after the duty").due("kind(1)", 0).due("put(1, 0, 5, 0)", 0)
        .due("put(2, 0, 6, 20)", 1).due("derive(2, 0, 1)", 2).due("duty(0, 0, 2)", 1)
        .due("erase(1, 31680)", 2).due("state(3)", 1);
  }

  private static void keptByADerivedOnesKind() {
    Run run = new Run("kept by what is derived and held by its kind, the first one's");
    run.due("kind(1)", 0).due("kind(1)", 1).due("put(1, 0, 5, 0)", 0).due("put(2, 1, 6, 0)", 1)
        .due("put(3, 0, 7, 0)", 2).due("put(4, 1, 8, 0)", 3).due("derive(1, 1, 0)", 4)
        .due("derive(2, 2, 3)", 5).due("hold(101, 0, 20)", 0);
    run.due("erase(1, 28800)", 0).due("erase(2, 28800)", 0).due("erase(3, 28800)", 2)
        .due("erase(4, 28800)", 0).due("state(3)", 4).due("peek(3)", 8).due("peek(4)", 11);
  }

  private static void keptThroughAChain() {
    Run run = new Run("kept through a chain of what is derived");
    run.due("kind(1)", 0).due("kind(1)", 1).due("put(1, 0, 5, 0)", 0);
    for (int i = 1; i < 98; i++) {
      run.due("derive(0, " + (i - 1) + ", 0)", i);
    }
    run.due("put(2, 1, 6, 0)", 98).due("derive(2, 98, 97)", 99).due("hold(101, 0, 20)", 0)
        .due("erase(1, 28800)", 0).due("state(3)", 100).due("erase(2, 28799)", 2)
        .due("state(3)", 98).due("erase(1, 28800)", 98);
  }

  private static void keptByASum() {
    Run run = new Run("a sum keeps the inputs that live, both or the one");
    run.due("kind(1)", 0).due("kind(1)", 1).due("put(1, 0, 5, 0)", 0).due("put(2, 0, 6, 0)", 1)
        .due("put(3, 1, 7, 0)", 2).due("derive(1, 0, 1)", 3).due("derive(1, 2, 3)", 4)
        .due("hold(101, 0, 20)", 0);
    run.due("erase(1, 28800)", 0).due("erase(2, 28800)", 0).due("erase(3, 28800)", 0)
        .due("erase(1, 0)", 1).due("peek(4)", 13).due("erase(2, 28800)", 0).due("erase(2, 0)", 2)
        .due("peek(4)", 7).due("erase(3, 28800)", 0).due("erase(3, 0)", 2);
  }

  /** The flag dies with its other input, and no longer keeps; the sum behind it is no way, either. */
  private static void notKeptByTheDead() {
    Run run = new Run("kept by \"an item that lives\"");
    run.due("kind(1)", 0).due("kind(1)", 1).due("put(1, 0, 5, 0)", 0).due("put(2, 1, 6, 0)", 1)
        .due("derive(2, 1, 0)", 2).due("put(3, 1, 7, 0)", 3).due("derive(1, 3, 2)", 4)
        .due("hold(101, 0, 20)", 0).due("erase(1, 28800)", 0).due("erase(2, 0)", 2)
        .due("look(0, 4)", 0).due("look(4, 0)", 1).due("peek(4)", 7).due("erase(1, 28800)", 1)
        .due("erase(3, 28800)", 0);
  }

  private static void notKeptByWhatIsNotKept() {
    new Run("kept by an item that \"is kept then\"").due("kind(1)", 0).due("kind(1)", 1)
        .due("put(1, 0, 5, 0)", 0).due("put(2, 1, 6, 0)", 1).due("derive(1, 0, 1)", 2)
        .due("hold(101, 0, 0)", 0).due("erase(1, 0)", 1).due("peek(2)", 6).due("erase(2, 0)", 0);
  }

  private static void inputsDoNotKeep() {
    new Run("an input that is kept does not keep what is derived").due("kind(1)", 0)
        .due("kind(1)", 1).due("put(1, 0, 5, 0)", 0).due("put(2, 1, 6, 0)", 1)
        .due("derive(2, 0, 1)", 2).due("hold(2, 0, 20)", 0).goes("lift(0, 20)")
        .due("hold(101, 0, 20)", 1).due("erase(1, 28800)", 2).due("state(3)", 1)
        .due("peek(1)", 6);
    Run run = new Run("nor does a first input that a duty covers on its own, earlier day");
    run.due("kind(1)", 0).due("kind(1)", 1).due("put(1, 0, 5, 10)", 0).due("put(2, 1, 6, 20)", 1)
        .due("derive(2, 0, 1)", 2).due("derive(1, 0, 1)", 3).due("duty(0, 0, 1)", 1)
        .due("erase(1, 14400)", 0).due("erase(2, 28800)", 0).due("erase(2, 14400)", 2)
        .due("look(2, 0)", -1).due("peek(3)", 5).due("state(3)", 2);
  }

  private static void copiesGoAlong() {
    new Run("\"each copy with an erased input\"").due("kind(1)", 0).due("put(1, 0, 5, 0)", 0)
        .due("put(2, 0, 6, 0)", 1).due("derive(0, 0, 1)", 2).due("derive(0, 1, 0)", 3)
        .due("erase(1, 0)", 2).due("state(3)", 2).due("peek(3)", 6).due("peek(2)", 0)
        .due("erase(2, 0)", 2).due("state(3)", 0);
  }

  private static void flagsGoAlong() {
    Run run = new Run("\"each flag with an erased input\", the first or the second");
    run.due("kind(1)", 0).due("put(1, 0, 6, 0)", 0).due("put(2, 0, 5, 0)", 1)
        .due("put(3, 0, 4, 0)", 2).due("derive(2, 0, 1)", 3).due("derive(2, 0, 2)", 4)
        .due("derive(2, 2, 1)", 5).due("derive(2, 1, 2)", 6).due("erase(2, 0)", 4)
        .due("look(3, 0)", -1).due("look(4, 0)", 0).due("look(5, 0)", -1).due("look(6, 0)", -1)
        .due("erase(1, 0)", 2).due("state(3)", 1);
  }

  private static void sumsStayWithOneInput() {
    Run run = new Run("\"each sum without an input that lives\"");
    run.due("kind(1)", 0).due("put(1, 0, 6, 0)", 0).due("put(2, 0, 5, 0)", 1)
        .due("put(1, 0, 4, 0)", 2).due("derive(1, 0, 1)", 3).due("derive(1, 1, 0)", 4)
        .due("derive(1, 0, 2)", 5).due("erase(1, 0)", 3).due("peek(3)", 5).due("peek(4)", 5)
        .due("look(5, 0)", -1).due("look(1, 4)", 2).due("state(3)", 3);
    run.due("erase(1, 0)", 0).due("state(3)", 3).due("erase(2, 0)", 3).due("state(3)", 0);
  }

  private static void andSoOn() {
    Run run = new Run("\"and so on\": what is derived from what is derived");
    run.due("kind(1)", 0).due("put(1, 0, 6, 0)", 0).due("put(2, 0, 5, 0)", 1)
        .due("derive(0, 0, 0)", 2).due("derive(2, 1, 2)", 3).due("derive(1, 2, 3)", 4)
        .due("derive(0, 4, 0)", 5).due("derive(1, 5, 1)", 6).due("derive(0, 6, 0)", 7)
        .due("derive(2, 7, 5)", 8).due("derive(1, 8, 7)", 9);
    run.due("peek(9)", 12).due("erase(1, 0)", 6).due("peek(6)", 5).due("peek(7)", 5)
        .due("peek(8)", 0).due("look(8, 0)", -1).due("peek(9)", 5).due("state(3)", 4)
        .due("erase(2, 0)", 4).due("state(3)", 0);
  }

  private static void putItemsOfThePerson() {
    Run run = new Run("14 \"all items that were put of a person\": not what is derived by itself");
    run.due("kind(1)", 0).due("put(1, 0, 6, 0)", 0).due("put(2, 0, 5, 0)", 1)
        .due("derive(1, 0, 1)", 2).due("derive(0, 2, 0)", 3).due("erase(3, 0)", 0)
        .due("erase(1, 0)", 1).due("look(2, 2)", 6).due("look(3, 2)", 6).due("erase(1, 0)", 0)
        .due("peek(3)", 5).due("put(1, 0, 1, 0)", 4).due("put(1, 0, 2, 0)", 5)
        .due("erase(1, 0)", 2).due("erase(2, 0)", 3);
  }

  private static void keptOnesStayOthersGo() {
    Run run = new Run("\"those of them that are not kept\"");
    run.due("kind(1)", 0).due("kind(1)", 1).due("put(1, 0, 6, 0)", 0).due("put(1, 1, 5, 0)", 1)
        .due("put(1, 0, 4, 0)", 2).due("derive(1, 0, 1)", 3).due("derive(2, 1, 2)", 4)
        .due("derive(0, 0, 0)", 5).due("hold(101, 0, 0)", 0);
    run.due("erase(1, 0)", 2).due("look(0, 0)", -1).due("look(5, 0)", -1).due("peek(3)", 5)
        .due("peek(2)", 4).due("peek(4)", 1).due("state(3)", 4).due("erase(1, 0)", 0);
  }

  private static void wordsOfErasedItems() {
    new Run("\"erased items' words are 0\"").due("kind(1)", 0).due("put(1, 0, -6, 0)", 0)
        .due("put(2, 0, 5, 0)", 1).due("derive(0, 0, 0)", 2).due("derive(1, 0, 1)", 3)
        .due("derive(2, 1, 0)", 4).due("peek(0)", -6).due("peek(2)", -6).due("peek(4)", 1)
        .due("erase(1, 0)", 3).due("peek(0)", 0).due("peek(2)", 0).due("peek(4)", 0)
        .due("peek(3)", 5).due("put(1, 0, 9, 0)", 5).due("peek(0)", 0).due("peek(2)", 0)
        .due("erase(2, 0)", 2).due("peek(3)", 0).due("peek(5)", 9);
  }

  private static void nothingToErase() {
    new Run("14, 15 nothing to erase").due("erase(0, 0)", 0).due("erase(15, 10000000)", 0)
        .due("sweep(0)", 0).due("sweep(6944)", 0).due("kind(1)", 0).due("erase(0, 0)", 0)
        .due("put(0, 0, 5, 0)", 0).due("erase(1, 0)", 0).due("erase(0, 0)", 1)
        .due("erase(0, 0)", 0).due("sweep(6944)", 0).due("state(2)", 1);
  }

  /** Covered on the day from which it is due, but no more on the day of the sweep. */
  private static void sweepKeepsOnItsDay() {
    new Run("15 to erase \"on that day\"").due("kind(1)", 0).due("put(1, 0, 5, 10)", 0)
        .due("put(2, 0, 6, 10)", 1).due("derive(0, 1, 0)", 2).due("event(1, 0, 10)", 1)
        .due("event(2, 0, 10)", 2).due("hold(2, 0, 11)", 0).goes("lift(0, 14)").due("sweep(11)", 1)
        .due("sweep(13)", 0).due("peek(2)", 6).due("sweep(10)", 0).due("sweep(14)", 2)
        .due("state(3)", 0);
  }
}
