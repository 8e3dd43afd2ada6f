/** The first and the last number that each argument may be, those next to them, and the farthest ones. */
public final class ArgumentEdgesTest {
  public static void main(String[] args) {
    parents();
    retentions();
    consents();
    contracts();
    duties();
    puts();
    waysToDerive();
    inputs();
    events();
    holds();
    holdsWithoutKinds();
    lifts();
    uses();
    usedItems();
    erasures();
    sweeps();
    Run.end();
  }

  /** Purposes 0 to 2, one below the other, and kinds 0 and 1. */
  private static Run start(String name) {
    return new Run(name).due("purpose(0)", 1).due("purpose(1)", 2).due("kind(10)", 0)
        .due("kind(20)", 1);
  }

  private static void parents() {
    Run run = new Run("2 \"there is no such parent\"");
    for (int total = 1; total < 16; total++) {
      run.outside("purpose(#)", 0, total - 1).due("state(0)", total)
          .due(Run.with("purpose(#)", total - 1), total);
    }
  }

  private static void retentions() {
    Run run = new Run("3 \"the retention is not 1 .. 5,000 days\"");
    run.takes("kind(#)", 1, 5000, 0).due("state(1)", 2);
    run.due("put(0, 0, 1, 7)", 0).due("put(0, 1, 1, 7)", 1).due("event(0, 0, 7)", 1)
        .due("event(0, 1, 7)", 2).due("look(0, 3)", 8).due("look(1, 3)", 5007);
  }

  private static void consents() {
    Run run = start("4 \"no such person or purpose\", \"minutes are 0 to 10,000,000\"");
    run.takes("consent(#, 0, true, 0)", 0, 15, 1).takes("consent(0, #, true, 0)", 0, 2, 3)
        .takes("consent(0, 0, true, #)", 0, 10000000, 5)
        .takes("consent(#, 2, false, 7)", 0, 15, 7).takes("consent(7, #, false, 7)", 0, 2, 9)
        .takes("consent(15, 2, false, #)", 0, 10000000, 11);
  }

  private static void contracts() {
    Run run = start("5 \"as for consent(), for both minutes, or from is later than to\"");
    run.takes("contract(#, 0, 0, 0)", 0, 15, 1).takes("contract(0, #, 0, 0)", 0, 2, 3);
    run.takes("contract(0, 0, #, 10000000)", 0, 10000000, 5)
        .takes("contract(0, 0, 0, #)", 0, 10000000, 7);
    run.takes("contract(0, 0, #, 500)", 0, 500, 9).takes("contract(0, 0, 500, #)", 500, 10000000, 11);
    run.badArgument("contract(0, 0, -1, -1)").badArgument("contract(0, 0, 10000001, 10000001)")
        .badArgument("contract(0, 0, 10000001, 10000000)").badArgument("contract(0, 0, 0, -1)")
        .due("contract(0, 0, 0, 0)", 13).due("contract(0, 0, 10000000, 10000000)", 14);
  }

  private static void duties() {
    new Run("6 \"no such kind\", and there is none").badArgument("duty(0, 0, 1)").due("kind(1)", 0)
        .due("duty(0, 0, 1)", 1);
    start("6 \"no such kind or purpose, or the days are not 1 .. 5,000\"")
        .takes("duty(#, 0, 1)", 0, 1, 1).takes("duty(0, #, 1)", 0, 2, 3)
        .takes("duty(0, 0, #)", 1, 5000, 5);
  }

  private static void puts() {
    new Run("7 \"no such kind\", and there is none").badArgument("put(0, 0, 1, 1)")
        .due("state(2)", 0).due("kind(1)", 0).due("put(0, 0, 1, 1)", 0);
    Run run = start("7 \"no such person or kind\", \"days are 0 to 6,944\"");
    run.takes("put(#, 0, 1, 1)", 0, 15, 0).takes("put(0, #, 1, 1)", 0, 1, 2)
        .takes("put(0, 0, 1, #)", 0, 6944, 4).due("state(2)", 6).due("state(3)", 6);
    run.due("look(0, 2)", 1).due("look(1, 2)", 32768).due("look(2, 0)", 0).due("look(3, 0)", 1)
        .due("look(4, 1)", 0).due("look(5, 1)", 6944);
    run.due("put(0, 0, -2147483648, 0)", 6).due("put(0, 0, 2147483647, 0)", 7)
        .due("peek(6)", -2147483648L).due("peek(7)", 2147483647L);
  }

  private static void waysToDerive() {
    Run run = start("8 \"how is none\"");
    run.due("put(0, 0, 6, 1)", 0).due("put(0, 0, 5, 1)", 1).takes("derive(#, 0, 1)", 0, 2, 2)
        .due("derive(1, 0, 1)", 4).due("peek(2)", 6).due("peek(3)", 1).due("peek(4)", 11)
        .due("state(2)", 5);
  }

  private static void inputs() {
    Run run = start("8 \"an input does not live\", \"both inputs are one number\"");
    run.due("put(0, 0, 6, 1)", 0).due("put(0, 0, 5, 1)", 1);
    for (int none : new int[] {Integer.MIN_VALUE, -1, 2, 99, 100, Integer.MAX_VALUE}) {
      run.noElement("derive(0, " + none + ", 0)").noElement("derive(1, " + none + ", 0)")
          .noElement("derive(1, 0, " + none + ")").noElement("derive(2, " + none + ", 0)")
          .noElement("derive(2, 0, " + none + ")");
    }
    run.badArgument("derive(1, 0, 0)").badArgument("derive(2, 1, 1)").due("state(2)", 2)
        .due("look(0, 4)", 0);
    run.due("derive(0, 1, 1)", 2).due("derive(1, 2, 1)", 3).due("derive(2, 0, 3)", 4)
        .noElement("derive(0, 5, 0)");
  }

  private static void events() {
    new Run("9 \"as for put()\", and there is no kind").badArgument("event(0, 0, 1)")
        .due("kind(1)", 0).due("event(0, 0, 1)", 1);
    start("9 \"as for put()\"").takes("event(#, 0, 1)", 0, 15, 1).takes("event(0, #, 1)", 0, 1, 3)
        .takes("event(0, 0, #)", 0, 6944, 5);
  }

  private static void holds() {
    Run run = start("10 \"no such person, kind or purpose, or the day is not 0 to 6,944\"");
    run.takes("hold(#, 0, 0)", 0, 15, 0).takes("hold(#, 0, 0)", 100, 101, 2);
    for (int of = 16; of < 100; of++) {
      run.badArgument(Run.with("hold(#, 0, 0)", of));
    }
    run.badArgument("hold(-100, 0, 0)").badArgument("hold(-2147483548, 0, 0)")
        .badArgument("hold(200, 0, 0)").due("state(5)", 4);
    run.takes("hold(0, #, 0)", 0, 2, 4).takes("hold(100, #, 0)", 0, 2, 6)
        .takes("hold(0, 0, #)", 0, 6944, 8).takes("hold(101, 0, #)", 0, 6944, 10)
        .due("state(5)", 12);
  }

  private static void holdsWithoutKinds() {
    new Run("10 \"no such kind\", and there is none").badArgument("hold(100, 0, 0)")
        .due("kind(1)", 0).due("hold(100, 0, 0)", 0).badArgument("hold(101, 0, 0)")
        .dueCounting("kind(1)", 7, 1).due("hold(107, 0, 0)", 1).badArgument("hold(108, 0, 0)");
  }

  private static void lifts() {
    Run run = start("11 \"no such hold, or the day is before its first one, or above 6,944\"");
    run.outside("lift(#, 10)", 0, -1).badArgument("lift(0, 10)").due("hold(0, 0, 0)", 0)
        .due("hold(0, 0, 10)", 1).due("hold(101, 0, 6944)", 2).due("hold(0, 0, 10)", 3);
    run.outside("lift(#, 6944)", 0, 3).outside("lift(0, #)", 0, 6944)
        .outside("lift(1, #)", 10, 6944).outside("lift(2, #)", 6944, 6944);
    run.goes("lift(0, 0)").goes("lift(1, 10)").goes("lift(2, 6944)").goes("lift(3, 6944)")
        .due("state(5)", 4);
  }

  private static void uses() {
    Run run = start("12 \"no such purpose, or the minute is not so\"");
    run.due("put(0, 0, 6, 1)", 0).due("contract(0, 0, 0, 10000000)", 1)
        .outside("use(0, #, 5)", 0, 2).outside("use(0, 0, #)", 0, 10000000)
        .due("why()", -1).due("state(4)", 0);
    run.due("use(0, 0, 5)", 6).due("use(0, 2, 5)", 6).due("use(0, 0, 0)", 6)
        .due("use(0, 0, 10000000)", 6).due("state(4)", 4).due("logged(2, 2)", 0)
        .due("logged(3, 2)", 10000000);
  }

  private static void usedItems() {
    Run run = start("12 \"the item does not live\"");
    run.noElement("use(0, 0, 5)").due("put(0, 0, 6, 1)", 0).due("put(1, 0, 7, 1)", 1)
        .due("contract(1, 0, 0, 10000000)", 1);
    for (int none : new int[] {Integer.MIN_VALUE, -1, 2, 99, 100, Integer.MAX_VALUE}) {
      run.noElement(Run.with("use(#, 0, 5)", none));
    }
    run.due("why()", -1).due("state(4)", 0).badState("use(0, 0, 5)").due("use(1, 0, 5)", 7)
        .due("state(4)", 2);
  }

  private static void erasures() {
    Run run = start("14 \"no such person, or the minute is not so\"");
    run.due("put(0, 0, 6, 1)", 0).due("put(15, 0, 7, 1)", 1).due("put(1, 0, 7, 1)", 2)
        .due("put(2, 0, 7, 1)", 3);
    run.outside("erase(#, 0)", 0, 15).outside("erase(0, #)", 0, 10000000).due("state(3)", 4);
    run.due("erase(0, 5)", 1).due("erase(15, 5)", 1).due("erase(1, 0)", 1)
        .due("erase(2, 10000000)", 1).due("state(3)", 0);
  }

  private static void sweeps() {
    Run run = start("15 \"the day is not 0 to 6,944\"");
    run.due("put(0, 0, 6, 0)", 0).due("event(0, 0, 0)", 1).outside("sweep(#)", 0, 6944)
        .due("state(3)", 1).due("sweep(0)", 0).due("sweep(6944)", 1).outside("sweep(#)", 0, 6944);
  }
}
