/** Promises 12 and 13: use by its grounds, and why. */
public final class UseTest {
  public static void main(String[] args) {
    refuses();
    consentNearestAndLatest();
    consentOfEachPerson();
    contract();
    duty();
    dutyOfAnotherKind();
    hold();
    holdOfPersonShutsOut();
    onlyHoldIsOfPerson();
    firstGroundCounts();
    emptyTables();
    fullTables();
    logIsFull();
    Run.end();
  }

  private static Run start(String name) {
    return new Run(name).due("kind(50)", 0).due("kind(60)", 1).due("purpose(0)", 1)
        .due("purpose(1)", 2).due("purpose(0)", 3).due("put(3, 0, 500, 10)", 0)
        .due("put(4, 1, -7, 12)", 1);
  }

  private static void refuses() {
    Run run = start("12 use refuses");
    run.badArgument("use(0, 4, 0)").badArgument("use(0, -1, 0)").badArgument("use(0, 0, -1)")
        .badArgument("use(0, 0, 10000001)").badArgument("use(9, 4, 0)").badArgument("use(9, 0, -1)");
    run.noElement("use(2, 0, 0)").noElement("use(-1, 0, 0)").noElement("use(100, 0, 0)")
        .noElement("use(2147483647, 0, 0)").noElement("use(-2147483648, 0, 0)");
    run.due("why()", -1).due("state(4)", 0).badState("use(0, 0, 0)").due("why()", 0)
        .due("state(4)", 1).badState("use(0, 3, 10000000)").due("state(4)", 2);
    run.due("consent(3, 0, true, 0)", 1).due("use(0, 0, 0)", 500).due("why()", 1)
        .noElement("use(2, 0, 0)").badArgument("use(0, 4, 0)").due("why()", 1).due("state(4)", 3);
    run.due("erase(3, 0)", 1).noElement("use(0, 0, 0)").badArgument("use(0, 9, 0)").due("state(4)", 3);
  }

  private static void consentNearestAndLatest() {
    Run run = start("12 consent");
    run.due("consent(3, 1, true, 100)", 1).badState("use(0, 2, 99)").due("use(0, 2, 100)", 500)
        .due("use(0, 1, 100)", 500).badState("use(0, 0, 100)").badState("use(0, 3, 100)")
        .badState("use(1, 1, 100)");
    run.due("consent(3, 0, false, 500)", 2).due("use(0, 2, 600)", 500).badState("use(0, 0, 600)");
    run.due("consent(3, 2, false, 300)", 3).badState("use(0, 2, 300)").due("use(0, 2, 299)", 500)
        .due("use(0, 1, 300)", 500);
    run.due("consent(3, 2, true, 200)", 4).badState("use(0, 2, 300)").due("use(0, 2, 250)", 500);
    run.due("consent(3, 2, true, 300)", 5).due("use(0, 2, 300)", 500).due("use(0, 2, 9000)", 500);
    run.due("consent(3, 2, false, 300)", 6).badState("use(0, 2, 300)").due("use(0, 2, 299)", 500);
    run.due("consent(3, 3, true, 700)", 7).badState("use(0, 2, 800)").due("use(0, 3, 800)", 500)
        .due("why()", 1);
  }

  private static void consentOfEachPerson() {
    Run run = start("12 consent of each person");
    run.due("derive(1, 0, 1)", 2).due("derive(0, 2, 0)", 3).due("consent(3, 0, true, 5)", 1)
        .badState("use(2, 2, 50)").due("consent(4, 1, true, 5)", 2).due("use(2, 2, 50)", 493)
        .due("use(3, 1, 50)", 493).badState("use(3, 0, 50)").due("consent(4, 1, false, 40)", 3)
        .badState("use(3, 2, 50)").due("use(3, 2, 39)", 493).due("use(0, 2, 50)", 500);
    run.due("put(15, 0, 1, 1)", 4).due("derive(2, 0, 4)", 5).badState("use(5, 0, 50)")
        .due("consent(15, 0, true, 50)", 4).due("use(5, 0, 50)", 1).badState("use(5, 0, 49)");
    run.due("consent(4, 1, true, 40)", 5).due("erase(4, 0)", 1).due("use(2, 2, 50)", 500)
        .due("consent(4, 1, false, 41)", 6).badState("use(2, 2, 50)");
  }

  private static void contract() {
    Run run = start("12 contract");
    run.due("derive(1, 0, 1)", 2).due("contract(4, 1, 30, 40)", 1);
    run.badState("use(1, 2, 29)").due("use(1, 2, 30)", -7).due("use(1, 1, 40)", -7).due("why()", 2)
        .badState("use(1, 1, 41)").due("why()", 0).badState("use(1, 0, 35)")
        .badState("use(1, 3, 35)").badState("use(0, 1, 35)");
    run.due("use(2, 1, 35)", 493).due("why()", 2).due("contract(4, 2, 41, 41)", 2)
        .due("use(1, 2, 41)", -7).badState("use(1, 1, 41)").due("logged(1, 3)", 2);
  }

  private static void duty() {
    Run run = start("12 duty");
    run.due("duty(0, 1, 5)", 1).badState("use(0, 1, 14399)").due("use(0, 1, 14400)", 500)
        .due("why()", 3).due("use(0, 1, 21599)", 500).badState("use(0, 1, 21600)")
        .badState("use(0, 2, 14400)").badState("use(0, 0, 14400)").badState("use(1, 1, 18000)");
    run.due("derive(1, 0, 1)", 2).badState("use(2, 1, 17279)").due("use(2, 1, 17280)", 493)
        .due("use(2, 1, 24479)", 493).badState("use(2, 1, 24480)");
    run.due("duty(0, 1, 7)", 2).due("use(0, 1, 24479)", 500).badState("use(0, 1, 24480)");
  }

  private static void dutyOfAnotherKind() {
    Run run = start("12 duty of another kind");
    run.due("duty(1, 1, 5)", 1).badState("use(0, 1, 17280)").due("use(1, 1, 17280)", -7)
        .due("why()", 3);
  }

  private static void hold() {
    Run run = start("12 hold");
    run.due("derive(1, 0, 1)", 2).due("derive(1, 1, 0)", 3).due("hold(100, 1, 20)", 0);
    run.badState("use(0, 1, 28799)").due("use(0, 1, 28800)", 500).due("why()", 4)
        .due("use(2, 1, 28800)", 493).badState("use(3, 1, 28800)").badState("use(1, 1, 28800)")
        .badState("use(0, 2, 28800)").badState("use(0, 0, 28800)").due("use(0, 1, 10000000)", 500);
    run.due("hold(4, 3, 20)", 1).due("use(1, 3, 28800)", -7).due("use(2, 3, 28800)", 493)
        .due("use(3, 3, 28800)", 493).badState("use(0, 3, 28800)").badState("use(1, 1, 28800)");
  }

  private static void holdOfPersonShutsOut() {
    Run run = start("12 a hold of a person shuts the other grounds out");
    run.due("derive(1, 0, 1)", 2).due("consent(3, 0, true, 0)", 1).due("consent(4, 0, true, 0)", 2)
        .due("contract(3, 0, 0, 10000000)", 1).due("duty(0, 1, 5000)", 1).due("hold(100, 2, 20)", 0);
    run.due("use(0, 1, 28800)", 500).due("why()", 1).due("use(0, 2, 28800)", 500).due("why()", 1);
    run.due("hold(3, 3, 20)", 1).due("use(0, 1, 28799)", 500).due("why()", 1)
        .badState("use(0, 1, 28800)").due("why()", 0).badState("use(2, 1, 28800)")
        .due("use(1, 1, 28800)", -7);
    run.due("use(0, 3, 28800)", 500).due("why()", 4).due("use(0, 2, 28800)", 500).due("why()", 4)
        .due("use(2, 3, 28800)", 493).due("why()", 4);
    run.goes("lift(1, 22)").badState("use(0, 1, 31679)").due("use(0, 1, 31680)", 500).due("why()", 1);
  }

  private static void onlyHoldIsOfPerson() {
    Run run = start("12 a hold of a person shuts out, also as the only one");
    run.due("consent(3, 0, true, 0)", 1).due("hold(3, 1, 20)", 0).badState("use(0, 0, 28800)")
        .due("use(0, 0, 28799)", 500).due("use(0, 1, 28800)", 500).due("why()", 4);
  }

  private static void firstGroundCounts() {
    Run run = start("13 the first ground counts");
    run.due("hold(100, 1, 0)", 0).due("use(0, 1, 15000)", 500).due("why()", 4);
    run.due("duty(0, 1, 5)", 1).due("use(0, 1, 15000)", 500).due("why()", 3);
    run.due("contract(3, 1, 0, 20000)", 1).due("use(0, 1, 15000)", 500).due("why()", 2);
    run.due("consent(3, 1, true, 0)", 1).due("use(0, 1, 15000)", 500).due("why()", 1);
    run.due("consent(3, 1, false, 1)", 2).due("use(0, 1, 15000)", 500).due("why()", 2)
        .due("why()", 2).due("peek(0)", 500).due("why()", 2);
    run.due("logged(0, 3)", 4).due("logged(1, 3)", 3).due("logged(2, 3)", 2).due("logged(3, 3)", 1)
        .due("logged(4, 3)", 2);
  }

  /** Of the first person, kind and day: what was never entered must not count as entered with noughts. */
  private static void emptyTables() {
    Run run = new Run("12 tables without entries give no ground");
    run.due("kind(1)", 0).due("put(0, 0, 9, 0)", 0).badState("use(0, 0, 0)").due("look(0, 3)", -1)
        .due("consent(0, 0, true, 0)", 1).due("use(0, 0, 0)", 9).due("why()", 1)
        .due("erase(0, 0)", 1);
  }

  private static void fullTables() {
    Run run = new Run("12 full tables are read to their ends");
    run.dueCounting("purpose(0)", 15, 1).dueCounting("kind(1)", 8, 0)
        .dueCounting("consent(1, 0, false, 0)", 99, 1).due("consent(15, 15, true, 0)", 100)
        .dueCounting("contract(1, 1, 0, 0)", 39, 1).due("contract(14, 15, 0, 99)", 40)
        .dueCounting("duty(0, 1, 1)", 19, 1).due("duty(7, 15, 50)", 20)
        .dueCounting("event(1, 0, 0)", 59, 1).due("event(13, 6, 33)", 60)
        .dueCounting("hold(1, 0, 0)", 29, 0).due("hold(105, 15, 0)", 29);
    run.due("put(15, 6, 1, 0)", 0).due("put(14, 6, 2, 0)", 1).due("put(13, 7, 3, 0)", 2)
        .due("put(13, 5, 4, 0)", 3).due("put(13, 6, 5, 0)", 4).dueCounting("put(12, 6, 6, 0)", 95, 5);
    run.due("use(0, 15, 0)", 1).due("why()", 1).due("use(1, 15, 0)", 2).due("why()", 2)
        .due("use(2, 15, 0)", 3).due("why()", 3).due("use(3, 15, 0)", 4).due("why()", 4)
        .badState("use(4, 15, 0)").due("look(4, 3)", 34).due("look(99, 3)", -1).due("look(99, 4)", 0);
    run.due("sweep(33)", 0).due("sweep(34)", 1).due("held(12, 94)", 99).due("held(12, 95)", -1)
        .due("erase(12, 0)", 95).due("erase(13, 0)", 0).due("erase(13, 72000)", 1)
        .due("state(3)", 3);
  }

  private static void logIsFull() {
    Run run = start("12, 13 the log takes 200");
    run.due("consent(3, 0, true, 100)", 1);
    for (int i = 0; i < 199; i++) {
      run.due("use(0, 0, " + (100 + i) + ")", 500);
    }
    run.due("state(4)", 199).badState("use(0, 3, 7)").due("state(4)", 200).due("why()", 0);
    run.due("use(0, 1, 500)", 500).due("state(4)", 200).due("why()", 1).badState("use(1, 0, 1)")
        .due("why()", 0).due("state(4)", 200);
    run.due("logged(198, 2)", 298).due("logged(199, 0)", 0).due("logged(199, 1)", 3)
        .due("logged(199, 2)", 7).due("logged(199, 3)", 0).due("logged(200, 0)", -1)
        .due("logged(0, 2)", 100);
  }
}
