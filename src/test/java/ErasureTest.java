/** Promises 14 and 15: erase and sweep, with what is kept and what is due. */
public final class ErasureTest {
  public static void main(String[] args) {
    eraseRefuses();
    eraseReachesDerived();
    eraseTakesPutItemsOnly();
    eraseSparesHeldByPerson();
    eraseSparesHeldByKind();
    eraseSparesByDuty();
    keptByWhatIsDerived();
    onlyWhatLivesKeeps();
    sweepRefuses();
    sweepTakesDue();
    sweepSparesKept();
    sweepReachesDerived();
    Run.end();
  }

  private static void eraseRefuses() {
    Run run = new Run("14 erase refuses");
    run.due("kind(5)", 0).due("put(15, 0, 1, 1)", 0).due("put(0, 0, 1, 1)", 1);
    run.badArgument("erase(-1, 0)").badArgument("erase(16, 0)").badArgument("erase(0, -1)")
        .badArgument("erase(0, 10000001)").badArgument("erase(2147483647, 0)")
        .badArgument("erase(-2147483648, 0)").badArgument("erase(32, 0)").due("state(3)", 2);
    run.due("erase(15, 10000000)", 1).due("erase(15, 0)", 0).due("erase(0, 0)", 1)
        .due("state(3)", 0).due("state(2)", 2);
  }

  private static void eraseReachesDerived() {
    Run run = new Run("14 erase reaches what was derived");
    run.due("kind(5)", 0).due("put(1, 0, 10, 1)", 0).due("put(2, 0, 20, 1)", 1)
        .due("put(1, 0, 30, 1)", 2);
    run.due("derive(0, 0, 0)", 3).due("derive(1, 3, 1)", 4).due("derive(2, 1, 3)", 5)
        .due("derive(1, 5, 3)", 6).due("derive(0, 4, 0)", 7).due("derive(1, 0, 2)", 8)
        .due("derive(0, 6, 0)", 9);
    run.due("peek(4)", 30).due("peek(6)", 11).due("erase(1, 0)", 7);
    run.due("state(3)", 3).due("state(2)", 10).due("held(1, 0)", 4).due("held(1, 1)", 7)
        .due("held(1, 2)", -1).due("held(2, 0)", 1).due("held(2, 2)", 7).due("held(2, 3)", -1);
    run.due("peek(0)", 0).due("peek(3)", 0).due("peek(4)", 20).due("peek(5)", 0).due("peek(6)", 0)
        .due("peek(7)", 20).due("peek(8)", 0).due("peek(9)", 0).due("look(0, 0)", -1);
    run.due("look(1, 4)", 1).due("erase(1, 0)", 0).due("erase(2, 0)", 3).due("state(3)", 0)
        .due("peek(4)", 0).due("peek(7)", 0).due("put(1, 0, 5, 1)", 10);
  }

  private static void eraseTakesPutItemsOnly() {
    Run run = new Run("14 erase takes a derived item by its inputs alone");
    run.due("kind(5)", 0).due("put(1, 0, 10, 1)", 0).due("put(2, 0, 20, 1)", 1)
        .due("derive(1, 0, 1)", 2).due("derive(2, 0, 1)", 3).due("erase(1, 0)", 2)
        .due("look(2, 2)", 6).due("peek(2)", 20).due("look(3, 2)", -1).due("erase(1, 0)", 0)
        .due("peek(2)", 20).due("derive(0, 2, 0)", 4).due("look(4, 2)", 6).due("erase(2, 0)", 3);
  }

  private static void eraseSparesHeldByPerson() {
    Run run = new Run("14 a hold of a person keeps");
    run.due("kind(5)", 0).due("put(1, 0, 10, 1)", 0).due("put(2, 0, 20, 1)", 1)
        .due("hold(1, 0, 10)", 0).goes("lift(0, 12)");
    run.due("erase(1, 14400)", 0).due("erase(1, 17279)", 0).due("erase(2, 14400)", 1)
        .due("erase(1, 17280)", 1);
    Run early = new Run("14 a hold of a person keeps from its first day on");
    early.due("kind(5)", 0).due("put(1, 0, 10, 1)", 0).due("hold(1, 0, 10)", 0)
        .due("erase(1, 10000000)", 0).due("erase(1, 14400)", 0).due("erase(1, 14399)", 1);
  }

  private static void eraseSparesHeldByKind() {
    Run run = new Run("14 a hold of a kind keeps");
    run.due("kind(5)", 0).due("kind(6)", 1).due("put(1, 0, 10, 1)", 0).due("put(1, 1, 20, 1)", 1)
        .due("hold(101, 0, 10)", 0).due("erase(1, 14400)", 1).due("peek(1)", 20).due("peek(0)", 0)
        .due("erase(1, 14399)", 1);
  }

  private static void eraseSparesByDuty() {
    Run run = new Run("14 a duty keeps, whatever its purpose");
    run.due("kind(5)", 0).due("kind(6)", 1).due("purpose(0)", 1).due("duty(0, 1, 4)", 1)
        .due("put(1, 0, 10, 10)", 0).due("put(1, 1, 10, 10)", 1).due("put(2, 0, 11, 10)", 2);
    run.due("erase(1, 14400)", 1).due("peek(0)", 10).due("erase(1, 20159)", 0)
        .due("erase(1, 20160)", 1).due("erase(2, 14400)", 0).due("erase(2, 14399)", 1);
  }

  private static void keptByWhatIsDerived() {
    Run run = new Run("14 what is derived keeps its inputs");
    run.due("kind(5)", 0).due("put(1, 0, 10, 1)", 0).due("put(2, 0, 20, 1)", 1)
        .due("put(1, 0, 30, 1)", 2).due("derive(0, 0, 0)", 3).due("derive(2, 3, 1)", 4)
        .due("derive(0, 4, 0)", 5).due("hold(2, 0, 10)", 0);
    run.due("erase(1, 14400)", 1).due("state(3)", 5).due("peek(0)", 10).due("peek(3)", 10)
        .due("peek(2)", 0).due("erase(2, 14400)", 0);
    run.goes("lift(0, 20)").due("erase(1, 28799)", 0).due("erase(1, 28800)", 4).due("state(3)", 1)
        .due("peek(1)", 20);
  }

  private static void onlyWhatLivesKeeps() {
    Run run = new Run("14 only what lives keeps");
    run.due("kind(5)", 0).due("kind(6)", 1).due("put(1, 0, 10, 1)", 0).due("put(2, 1, 20, 1)", 1)
        .due("derive(2, 1, 0)", 2).due("hold(101, 0, 10)", 0).due("erase(1, 14400)", 0)
        .due("erase(2, 14399)", 2).due("erase(1, 14400)", 1);
  }

  private static void sweepRefuses() {
    Run run = new Run("15 sweep refuses");
    run.due("kind(5)", 0).due("put(1, 0, 1, 1)", 0).due("event(1, 0, 1)", 1).badArgument("sweep(-1)")
        .badArgument("sweep(6945)").badArgument("sweep(-2147483648)").badArgument("sweep(2147483647)")
        .due("state(3)", 1).due("sweep(0)", 0).due("sweep(5)", 0).due("sweep(6)", 1)
        .due("sweep(6944)", 0);
  }

  private static void sweepTakesDue() {
    Run run = new Run("15 sweep takes what is due");
    run.due("kind(10)", 0).due("kind(20)", 1).due("put(1, 0, 1, 100)", 0).due("put(1, 0, 2, 120)", 1)
        .due("put(1, 1, 3, 100)", 2).due("put(2, 0, 4, 100)", 3);
    run.due("sweep(6944)", 0).due("event(1, 0, 119)", 1).due("event(1, 1, 119)", 2)
        .due("sweep(128)", 0).due("sweep(129)", 1).due("peek(0)", 0).due("sweep(138)", 0)
        .due("sweep(139)", 1).due("peek(2)", 0).due("sweep(6944)", 0).due("state(3)", 2);
    run.due("event(1, 0, 120)", 3).due("event(1, 0, 300)", 4).due("sweep(309)", 0)
        .due("sweep(400)", 1).due("state(3)", 1).due("peek(3)", 4);
  }

  private static void sweepSparesKept() {
    Run run = new Run("15 sweep spares what is kept");
    run.due("kind(10)", 0).due("put(1, 0, 1, 100)", 0).due("event(1, 0, 100)", 1)
        .due("duty(0, 0, 50)", 1).due("sweep(149)", 0).due("hold(1, 0, 150)", 0).goes("lift(0, 160)")
        .due("sweep(150)", 0).due("sweep(159)", 0).due("hold(100, 0, 160)", 1).goes("lift(1, 170)")
        .due("sweep(169)", 0).due("sweep(170)", 1);
  }

  private static void sweepReachesDerived() {
    Run run = new Run("15 sweep reaches what was derived");
    run.due("kind(10)", 0).due("put(1, 0, 1, 100)", 0).due("put(2, 0, 2, 100)", 1)
        .due("derive(0, 0, 0)", 2).due("derive(1, 2, 1)", 3).due("derive(2, 1, 0)", 4)
        .due("event(1, 0, 100)", 1).due("sweep(110)", 3).due("peek(3)", 2).due("state(3)", 2)
        .due("event(2, 0, 100)", 2).due("sweep(110)", 2).due("state(3)", 0);
  }
}
