/** "Grounds": the first and the last minute or day of each, and whom and what it is for. */
public final class GroundEdgesTest {
  public static void main(String[] args) {
    consentNotLater();
    consentAtTheLastMinute();
    consentNearest();
    consentNearestButLater();
    consentLatestMinute();
    consentEnteredLast();
    consentSaysNo();
    consentOfEachPerson();
    consentOfSixteenPersons();
    contractSpan();
    contractAtTheEnds();
    contractOfSomePerson();
    dutyFirstAndLastDay();
    dutyOfOneDay();
    dutyBeyondTheLastDay();
    dutyForThePurposeAlone();
    dutyOfADerivedItem();
    holdFirstDay();
    holdUntilLifted();
    holdNamesThePurpose();
    holdOfPersonOrKind();
    onlyFourOnCoveredDays();
    onlyFourForPersonsNotKinds();
    firstGroundThatIs();
    whyOfTheLatest();
    Run.end();
  }

  /** Purposes in a line, 0 to 3; kinds 0, 1; items of persons 1 and 2, of kinds 0 and 1, on day 10. */
  private static Run start(String name) {
    return new Run(name).due("purpose(0)", 1).due("purpose(1)", 2).due("purpose(2)", 3)
        .due("kind(1)", 0).due("kind(1)", 1).due("put(1, 0, 5, 10)", 0).due("put(2, 1, 6, 10)", 1);
  }

  private static void consentNotLater() {
    start("1 \"entries that are not later than m\"").due("consent(1, 0, true, 100)", 1)
        .badState("use(0, 0, 99)").due("use(0, 0, 100)", 5).due("use(0, 0, 101)", 5)
        .badState("use(0, 0, 0)").due("use(0, 0, 10000000)", 5).due("why()", 1);
  }

  private static void consentAtTheLastMinute() {
    start("1 consent at the first and at the last minute").due("consent(1, 0, true, 10000000)", 1)
        .badState("use(0, 0, 9999999)").due("use(0, 0, 10000000)", 5)
        .due("consent(1, 0, true, 0)", 2).due("use(0, 0, 0)", 5).due("use(0, 0, 9999999)", 5)
        .due("consent(1, 0, false, 10000000)", 3).due("use(0, 0, 9999999)", 5)
        .badState("use(0, 0, 10000000)");
  }

  private static void consentNearest() {
    Run run = start("1 \"those at the nearest such purpose\"");
    run.due("consent(1, 2, false, 10)", 1).due("consent(1, 0, true, 20)", 2)
        .due("consent(1, 1, true, 30)", 3).badState("use(0, 3, 50)").badState("use(0, 2, 50)")
        .due("use(0, 1, 50)", 5).due("use(0, 0, 50)", 5);
    run.due("consent(1, 1, false, 40)", 4).due("use(0, 0, 50)", 5).badState("use(0, 1, 50)")
        .due("consent(1, 3, true, 0)", 5).due("use(0, 3, 50)", 5).badState("use(0, 2, 50)");
  }

  private static void consentNearestButLater() {
    start("1 a nearer entry that is later than m leaves the farther one")
        .due("consent(1, 0, true, 10)", 1).due("consent(1, 2, false, 100)", 2)
        .due("use(0, 3, 99)", 5).badState("use(0, 3, 100)").due("consent(1, 1, false, 50)", 3)
        .due("use(0, 3, 49)", 5).badState("use(0, 3, 50)").badState("use(0, 3, 99)")
        .due("consent(1, 2, true, 101)", 4).badState("use(0, 3, 100)").due("use(0, 3, 101)", 5);
  }

  private static void consentLatestMinute() {
    start("1 \"of these the latest minute's\", whatever the order of entry")
        .due("consent(1, 0, true, 200)", 1).due("consent(1, 0, false, 199)", 2)
        .due("use(0, 0, 200)", 5).badState("use(0, 0, 199)").due("consent(1, 0, true, 198)", 3)
        .badState("use(0, 0, 199)").due("use(0, 0, 198)", 5).due("consent(1, 0, false, 201)", 4)
        .due("use(0, 0, 200)", 5).badState("use(0, 0, 201)");
  }

  private static void consentEnteredLast() {
    start("1 \"of these the one entered last\"").due("consent(1, 0, true, 100)", 1)
        .due("consent(1, 0, false, 100)", 2).badState("use(0, 0, 100)")
        .due("consent(2, 0, true, 100)", 3).badState("use(0, 0, 100)")
        .due("consent(1, 0, true, 100)", 4).due("use(0, 0, 100)", 5)
        .due("consent(1, 0, false, 99)", 5).due("use(0, 0, 100)", 5).badState("use(0, 0, 99)")
        .due("consent(1, 1, false, 100)", 6).due("use(0, 0, 100)", 5).badState("use(0, 1, 100)");
  }

  private static void consentSaysNo() {
    start("1 \"it says yes\"").badState("use(0, 0, 5)").due("consent(1, 0, false, 5)", 1)
        .badState("use(0, 0, 5)").due("why()", 0).due("consent(1, 0, true, 5)", 2)
        .due("use(0, 0, 5)", 5).due("why()", 1).badState("use(1, 0, 5)").due("why()", 0);
  }

  private static void consentOfEachPerson() {
    start("1 \"consent of each of its persons\"").due("derive(1, 0, 1)", 2)
        .due("consent(1, 0, true, 10)", 1).badState("use(2, 0, 20)").due("consent(2, 3, true, 20)", 2)
        .badState("use(2, 2, 20)").due("use(2, 3, 20)", 11).badState("use(2, 3, 19)")
        .due("consent(1, 3, false, 21)", 3).due("use(2, 3, 20)", 11).badState("use(2, 3, 21)")
        .due("use(1, 3, 21)", 6);
  }

  private static void consentOfSixteenPersons() {
    Run run = new Run("1 \"each\", the first and the last of sixteen persons, too");
    run.due("kind(1)", 0).due("put(0, 0, 1, 0)", 0).due("put(1, 0, 1, 0)", 1)
        .due("derive(1, 0, 1)", 2);
    for (int person = 2; person < 16; person++) {
      run.due("put(" + person + ", 0, 1, 0)", 2 * person - 1)
          .due("derive(1, " + (2 * person - 2) + ", " + (2 * person - 1) + ")", 2 * person);
    }
    for (int person = 0; person < 16; person++) {
      run.badState("use(30, 0, 0)").due("consent(" + person + ", 0, true, 0)", person + 1);
    }
    run.due("use(30, 0, 0)", 16).due("consent(15, 0, false, 1)", 17).badState("use(30, 0, 1)")
        .due("consent(0, 0, false, 2)", 18).due("consent(15, 0, true, 2)", 19)
        .badState("use(30, 0, 2)").due("consent(0, 0, true, 2)", 20).due("use(30, 0, 2)", 16);
  }

  private static void contractSpan() {
    start("2 \"from <= m <= to\"").due("contract(1, 0, 100, 200)", 1).badState("use(0, 0, 99)")
        .due("use(0, 0, 100)", 5).due("why()", 2).due("use(0, 0, 200)", 5).badState("use(0, 0, 201)")
        .due("contract(1, 0, 202, 202)", 2).badState("use(0, 0, 201)").due("use(0, 0, 202)", 5)
        .badState("use(0, 0, 203)").due("use(0, 0, 150)", 5);
  }

  private static void contractAtTheEnds() {
    start("2 spans of the first and of the last minute").due("contract(1, 0, 0, 0)", 1)
        .due("use(0, 0, 0)", 5).badState("use(0, 0, 1)").due("contract(1, 0, 10000000, 10000000)", 2)
        .badState("use(0, 0, 9999999)").due("use(0, 0, 10000000)", 5)
        .due("contract(2, 0, 0, 10000000)", 3).due("use(1, 0, 0)", 6).due("use(1, 0, 10000000)", 6);
  }

  private static void contractOfSomePerson() {
    start("2 \"for some person of it\"").due("derive(1, 0, 1)", 2).due("derive(2, 1, 0)", 3)
        .due("contract(2, 1, 0, 9)", 1).due("use(2, 1, 9)", 11).due("use(3, 3, 9)", 1)
        .due("use(1, 1, 9)", 6).badState("use(0, 1, 9)").badState("use(2, 0, 9)")
        .due("consent(2, 0, false, 0)", 1).due("use(2, 1, 9)", 11).due("why()", 2)
        .due("contract(15, 0, 0, 9)", 2).badState("use(0, 1, 9)");
  }

  private static void dutyFirstAndLastDay() {
    start("3 \"its day <= the day of m < its day + the duty's days\"").due("duty(0, 0, 3)", 1)
        .badState("use(0, 0, 14399)").due("use(0, 0, 14400)", 5).due("why()", 3)
        .due("use(0, 0, 18719)", 5).badState("use(0, 0, 18720)").due("duty(0, 0, 2)", 2)
        .due("use(0, 0, 18719)", 5).due("duty(0, 0, 5000)", 3).due("use(0, 0, 18720)", 5)
        .due("use(0, 0, 7214399)", 5).badState("use(0, 0, 7214400)").badState("use(0, 0, 14399)");
  }

  private static void dutyOfOneDay() {
    start("3 a duty of one day").due("duty(0, 0, 1)", 1).badState("use(0, 0, 14399)")
        .due("use(0, 0, 14400)", 5).due("use(0, 0, 15839)", 5).badState("use(0, 0, 15840)");
  }

  private static void dutyBeyondTheLastDay() {
    start("3 a duty that runs beyond the last day").due("put(1, 0, 7, 6944)", 2)
        .due("put(1, 0, 8, 0)", 3).due("duty(0, 0, 5000)", 1).badState("use(2, 0, 9999359)")
        .due("use(2, 0, 9999360)", 7).due("use(2, 0, 10000000)", 7).due("use(3, 0, 0)", 8)
        .due("use(3, 0, 7199999)", 8).badState("use(3, 0, 7200000)");
  }

  private static void dutyForThePurposeAlone() {
    start("3 \"of its kind for p\": no purpose above or below, no other kind")
        .due("duty(0, 1, 3)", 1).badState("use(0, 0, 14400)").due("use(0, 1, 14400)", 5)
        .badState("use(0, 2, 14400)").badState("use(1, 1, 14400)").due("duty(1, 2, 3)", 2)
        .due("use(1, 2, 14400)", 6).badState("use(0, 2, 14400)").badState("use(1, 1, 14400)");
  }

  private static void dutyOfADerivedItem() {
    start("3 a duty goes by the derived item's own kind and day").due("put(1, 0, 7, 12)", 2)
        .due("derive(1, 1, 2)", 3).due("derive(1, 2, 1)", 4).due("duty(0, 0, 1)", 1)
        .badState("use(4, 0, 14400)").badState("use(4, 0, 17279)").due("use(4, 0, 17280)", 13)
        .due("use(4, 0, 18719)", 13).badState("use(4, 0, 18720)").badState("use(3, 0, 17280)")
        .due("erase(1, 0)", 2).due("look(4, 1)", 12).due("use(4, 0, 17280)", 6);
  }

  private static void holdFirstDay() {
    start("4 \"on days from its first one on\"").due("hold(1, 0, 20)", 0)
        .badState("use(0, 0, 28799)").due("use(0, 0, 28800)", 5).due("why()", 4)
        .due("use(0, 0, 10000000)", 5).due("hold(2, 0, 0)", 1).due("use(1, 0, 0)", 6)
        .due("hold(101, 1, 6944)", 2).badState("use(1, 1, 9999359)").due("use(1, 1, 9999360)", 6)
        .due("use(1, 1, 10000000)", 6);
  }

  private static void holdUntilLifted() {
    Run run = start("4 \"until the day on which it was lifted (which it does not cover)\"");
    run.due("hold(1, 0, 20)", 0).due("use(0, 0, 43200)", 5).goes("lift(0, 30)")
        .due("use(0, 0, 43199)", 5).badState("use(0, 0, 43200)").due("use(0, 0, 28800)", 5)
        .badState("use(0, 0, 28799)");
    run.due("hold(101, 0, 20)", 1).goes("lift(1, 21)").badState("use(1, 0, 28799)")
        .due("use(1, 0, 28800)", 6).due("use(1, 0, 30239)", 6).badState("use(1, 0, 30240)");
    run.due("hold(1, 0, 50)", 2).goes("lift(2, 50)").badState("use(0, 0, 72000)")
        .badState("use(0, 0, 71999)").due("hold(1, 0, 60)", 3).goes("lift(3, 6944)")
        .due("use(0, 0, 9999359)", 5).badState("use(0, 0, 9999360)");
    run.due("hold(1, 0, 6944)", 4).due("use(0, 0, 9999360)", 5).goes("lift(4, 6944)")
        .badState("use(0, 0, 9999360)");
  }

  private static void holdNamesThePurpose() {
    start("4 \"and names p\": no purpose above or below").due("hold(101, 1, 0)", 0)
        .badState("use(1, 0, 0)").due("use(1, 1, 0)", 6).badState("use(1, 2, 0)")
        .due("hold(2, 2, 0)", 1).due("use(1, 2, 0)", 6).due("use(1, 1, 0)", 6)
        .badState("use(1, 3, 0)").badState("use(1, 0, 0)");
  }

  private static void holdOfPersonOrKind() {
    start("4 \"of a person, or of a kind\"").due("derive(1, 0, 1)", 2).due("derive(1, 1, 0)", 3)
        .due("put(0, 1, 9, 0)", 4).due("hold(1, 1, 0)", 0).due("use(0, 1, 0)", 5)
        .badState("use(1, 1, 0)").due("use(2, 1, 0)", 11).due("use(3, 1, 0)", 11)
        .badState("use(4, 1, 0)").due("hold(101, 2, 0)", 1).badState("use(0, 2, 0)")
        .due("use(1, 2, 0)", 6).badState("use(2, 2, 0)").due("use(3, 2, 0)", 11)
        .due("use(4, 2, 0)", 9).due("hold(0, 3, 0)", 2).due("use(4, 3, 0)", 9)
        .badState("use(0, 3, 0)");
  }

  private static void onlyFourOnCoveredDays() {
    Run run = start("\"when a hold of a person covers the item on the day of m, only 4 counts\"");
    run.due("consent(1, 0, true, 0)", 1).due("contract(2, 0, 0, 10000000)", 1)
        .due("duty(0, 0, 5000)", 1).due("hold(1, 3, 20)", 0).goes("lift(0, 30)")
        .due("use(0, 0, 28799)", 5).due("why()", 1).badState("use(0, 0, 28800)").due("why()", 0)
        .due("use(0, 3, 28800)", 5).due("why()", 4).badState("use(0, 0, 43199)")
        .due("use(0, 0, 43200)", 5).due("why()", 1);
    run.due("hold(2, 3, 20)", 1).due("use(1, 0, 28799)", 6).due("why()", 2)
        .badState("use(1, 0, 28800)").due("use(1, 3, 28800)", 6).due("why()", 4);
  }

  private static void onlyFourForPersonsNotKinds() {
    Run run = start("\"a hold of a person (not of a kind)\"");
    run.due("derive(1, 0, 1)", 2).due("consent(1, 0, true, 0)", 1).due("consent(2, 0, true, 0)", 2)
        .due("hold(100, 3, 0)", 0).due("hold(101, 3, 0)", 1).due("use(0, 0, 0)", 5)
        .due("use(0, 3, 0)", 5).due("why()", 1).due("use(2, 0, 0)", 11);
    run.due("hold(2, 2, 0)", 2).due("use(0, 0, 0)", 5).due("why()", 1).badState("use(1, 0, 0)")
        .badState("use(2, 0, 0)").due("use(2, 2, 0)", 11).due("why()", 4).due("use(2, 3, 0)", 11)
        .due("why()", 4).due("hold(0, 0, 0)", 3).due("use(0, 0, 0)", 5).badState("use(2, 0, 0)");
    run.goes("lift(2, 0)").due("use(2, 0, 0)", 11).due("why()", 1);
  }

  private static void firstGroundThatIs() {
    Run run = start("\"the first one that is\"");
    run.due("consent(1, 0, true, 14401)", 1).due("contract(1, 0, 14402, 14404)", 1)
        .due("duty(0, 0, 1)", 1).due("hold(100, 0, 10)", 0).due("use(0, 0, 14400)", 5)
        .due("why()", 3).due("use(0, 0, 14401)", 5).due("why()", 1)
        .due("consent(1, 0, false, 14403)", 2).due("use(0, 0, 14402)", 5).due("why()", 1)
        .due("use(0, 0, 14403)", 5).due("why()", 2).due("use(0, 0, 14404)", 5).due("why()", 2)
        .due("use(0, 0, 14405)", 5).due("why()", 3).due("use(0, 0, 15840)", 5).due("why()", 4)
        .badState("use(0, 0, 14399)").due("why()", 0);
  }

  private static void whyOfTheLatest() {
    Run run = start("13 \"-1 before any\", \"0 when there was none\"");
    run.due("why()", -1).due("peek(0)", 5).due("look(0, 0)", 0).due("why()", -1)
        .badArgument("use(0, 4, 0)").noElement("use(2, 0, 0)").due("why()", -1)
        .badState("use(0, 0, 0)").due("why()", 0).due("why()", 0);
    run.due("contract(1, 0, 0, 9)", 1).due("why()", 0).due("use(0, 0, 9)", 5).due("why()", 2)
        .noElement("use(2, 0, 0)").due("why()", 2).due("erase(1, 0)", 1).due("why()", 2)
        .noElement("use(0, 0, 9)").due("why()", 2).badState("use(1, 0, 9)").due("why()", 0);
  }
}
