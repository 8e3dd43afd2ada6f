/** Promises 1 to 6: a new object, purposes, kinds, consents, contracts, duties, as they are entered. */
public final class EntriesTest {
  public static void main(String[] args) {
    newObject();
    purpose();
    kind();
    consent();
    contract();
    duty();
    Run.end();
  }

  private static void newObject() {
    Run run = new Run("1 new object");
    run.due("state(0)", 1).due("state(1)", 0).due("state(2)", 0).due("state(3)", 0)
        .due("state(4)", 0).due("state(5)", 0).due("why()", -1).due("logged(0, 0)", -1)
        .due("held(0, 0)", -1).due("peek(0)", 0).due("look(0, 0)", -1)
        .noElement("use(0, 0, 0)").due("why()", -1).due("erase(0, 0)", 0).due("sweep(0)", 0)
        .badArgument("put(0, 0, 1, 0)").badArgument("lift(0, 0)").badArgument("purpose(1)");
    new Run("1 objects share nothing").due("purpose(0)", 1).due("kind(1)", 0);
    new Run("1 objects share nothing").due("purpose(0)", 1).due("kind(1)", 0);
  }

  private static void purpose() {
    Run run = new Run("2 purpose");
    run.badArgument("purpose(-1)").badArgument("purpose(1)").due("state(0)", 1);
    run.dueCounting("purpose(0)", 1, 1).dueCounting("purpose(1)", 14, 2).due("state(0)", 16);
    run.badState("purpose(0)").badState("purpose(15)").due("state(0)", 16);
    run.badArgument("purpose(16)").badArgument("purpose(-2147483648)")
        .badArgument("purpose(2147483647)").badArgument("purpose(-1)");
  }

  private static void kind() {
    Run run = new Run("3 kind");
    run.badArgument("kind(0)").badArgument("kind(-5)").badArgument("kind(5001)")
        .badArgument("kind(-2147483648)").badArgument("kind(2147483647)").due("state(1)", 0);
    run.due("kind(1)", 0).due("kind(5000)", 1).dueCounting("kind(30)", 6, 2).due("state(1)", 8);
    run.badState("kind(30)").badArgument("kind(0)").badArgument("kind(5001)").due("state(1)", 8);
  }

  private static void consent() {
    Run run = new Run("4 consent");
    run.badArgument("consent(-1, 0, true, 0)").badArgument("consent(16, 0, true, 0)")
        .badArgument("consent(0, -1, true, 0)").badArgument("consent(0, 1, true, 0)")
        .badArgument("consent(0, 0, true, -1)").badArgument("consent(0, 0, false, 10000001)");
    run.due("consent(0, 0, true, 0)", 1).due("consent(15, 0, false, 10000000)", 2)
        .dueCounting("consent(3, 0, true, 5)", 98, 3);
    run.badState("consent(3, 0, true, 5)").badState("consent(4, 0, false, 5)")
        .badArgument("consent(16, 0, true, 5)").badArgument("consent(0, 1, true, 5)")
        .badArgument("consent(0, 0, true, -1)");
  }

  private static void contract() {
    Run run = new Run("5 contract");
    run.badArgument("contract(-1, 0, 0, 0)").badArgument("contract(16, 0, 0, 0)")
        .badArgument("contract(0, -1, 0, 0)").badArgument("contract(0, 1, 0, 0)")
        .badArgument("contract(0, 0, -1, 0)").badArgument("contract(0, 0, 0, 10000001)")
        .badArgument("contract(0, 0, 10000001, 10000001)").badArgument("contract(0, 0, -2, -1)")
        .badArgument("contract(0, 0, 6, 5)");
    run.due("contract(0, 0, 5, 5)", 1).due("contract(15, 0, 0, 10000000)", 2)
        .dueCounting("contract(2, 0, 1, 2)", 38, 3);
    run.badState("contract(2, 0, 1, 2)").badArgument("contract(2, 0, 2, 1)")
        .badArgument("contract(16, 0, 1, 2)").badArgument("contract(2, 1, 1, 2)");
  }

  private static void duty() {
    Run run = new Run("6 duty");
    run.badArgument("duty(0, 0, 1)").due("kind(9)", 0);
    run.badArgument("duty(-1, 0, 1)").badArgument("duty(1, 0, 1)").badArgument("duty(0, -1, 1)")
        .badArgument("duty(0, 1, 1)").badArgument("duty(0, 0, 0)").badArgument("duty(0, 0, 5001)")
        .badArgument("duty(0, 0, -1)");
    run.due("duty(0, 0, 1)", 1).due("duty(0, 0, 5000)", 2).dueCounting("duty(0, 0, 7)", 18, 3);
    run.badState("duty(0, 0, 7)").badArgument("duty(1, 0, 7)").badArgument("duty(0, 1, 7)")
        .badArgument("duty(0, 0, 0)");
  }
}
