/** "Terms": numbers of items, the tree of purposes, the day of a minute, and what is derived. */
public final class TermsEdgesTest {
  public static void main(String[] args) {
    numbersAreNeverGivenTwice();
    livesUntilErased();
    longestWayUp();
    broadTree();
    treeForConsent();
    dayOfMinute();
    dayOfMinuteWhenErasing();
    copy();
    sum();
    flag();
    flagOfNegatives();
    kindOfTheFirst();
    dayTheLater();
    personsOfAll();
    personsAsTheyWereThen();
    valueFollows();
    sumsBeyondInt();
    largestSum();
    smallestSum();
    flagsOfSumsRunOver();
    longestChain();
    Run.end();
  }

  private static void numbersAreNeverGivenTwice() {
    new Run("\"items by numbers from 0 on, never given twice\"").due("kind(1)", 0)
        .due("put(0, 0, 1, 0)", 0).due("put(1, 0, 2, 0)", 1).due("derive(0, 1, 0)", 2)
        .due("erase(1, 0)", 2).due("put(1, 0, 3, 0)", 3).due("derive(0, 0, 0)", 4)
        .due("erase(0, 0)", 2).due("erase(1, 0)", 1).due("state(3)", 0).due("put(0, 0, 4, 0)", 5)
        .due("peek(5)", 4).due("peek(0)", 0).due("peek(3)", 0).due("state(2)", 6);
  }

  private static void livesUntilErased() {
    Run run = new Run("\"lives until it is erased\"");
    run.due("kind(1)", 0).due("peek(0)", 0).due("look(0, 0)", -1).due("put(0, 0, 5, 0)", 0)
        .due("contract(0, 0, 0, 10000000)", 1).due("sweep(6944)", 0).due("erase(1, 0)", 0)
        .due("use(0, 0, 10000000)", 5).due("derive(0, 0, 0)", 1).due("state(3)", 2);
    run.due("erase(0, 0)", 2).due("state(3)", 0).noElement("use(0, 0, 0)").noElement("use(1, 0, 0)")
        .noElement("derive(0, 0, 0)").noElement("derive(0, 1, 0)").due("held(0, 0)", -1)
        .due("look(0, 0)", -1).due("look(1, 2)", -1).due("erase(0, 0)", 0);
  }

  /** Sixteen purposes in one line: the root is above the last, fifteen steps up. */
  private static void longestWayUp() {
    Run run = new Run("\"at or above\": that, or at or above its parent, in one line");
    for (int parent = 0; parent < 15; parent++) {
      run.due(Run.with("purpose(#)", parent), parent + 1);
    }
    run.due("kind(1)", 0).due("put(0, 0, 5, 0)", 0);
    for (int purpose = 0; purpose < 16; purpose++) {
      run.due("contract(0, " + purpose + ", " + purpose + ", " + purpose + ")", purpose + 1);
    }
    for (int purpose = 0; purpose < 16; purpose++) {
      run.due("use(0, 15, " + purpose + ")", 5).due("use(0, " + purpose + ", " + purpose + ")", 5);
      if (purpose > 0) {
        run.badState("use(0, " + (purpose - 1) + ", " + purpose + ")")
            .badState("use(0, 0, " + purpose + ")");
      }
    }
  }

  /** 1, 2 below the root; 3, 4 below 1; 5 below 2; 6 below 3. */
  private static Run tree(String name) {
    return new Run(name).due("purpose(0)", 1).due("purpose(0)", 2).due("purpose(1)", 3)
        .due("purpose(1)", 4).due("purpose(2)", 5).due("purpose(3)", 6).due("kind(1)", 0)
        .due("put(0, 0, 5, 0)", 0);
  }

  private static void broadTree() {
    Run run = tree("\"at or above\": no child, no sibling, nothing of another branch");
    run.due("contract(0, 1, 0, 9)", 1).badState("use(0, 0, 5)").due("use(0, 1, 5)", 5)
        .badState("use(0, 2, 5)").due("use(0, 3, 5)", 5).due("use(0, 4, 5)", 5)
        .badState("use(0, 5, 5)").due("use(0, 6, 5)", 5);
    run.due("contract(0, 3, 10, 19)", 2).badState("use(0, 0, 15)").badState("use(0, 1, 15)")
        .badState("use(0, 2, 15)").due("use(0, 3, 15)", 5).badState("use(0, 4, 15)")
        .badState("use(0, 5, 15)").due("use(0, 6, 15)", 5);
    run.due("contract(0, 0, 20, 29)", 3).due("use(0, 0, 25)", 5).due("use(0, 5, 25)", 5)
        .due("use(0, 6, 25)", 5);
  }

  private static void treeForConsent() {
    Run run = tree("\"at or above\" for consent");
    run.due("consent(0, 1, true, 0)", 1).badState("use(0, 0, 5)").due("use(0, 1, 5)", 5)
        .badState("use(0, 2, 5)").due("use(0, 4, 5)", 5).badState("use(0, 5, 5)")
        .due("use(0, 6, 5)", 5);
    run.due("consent(0, 4, false, 0)", 2).due("consent(0, 5, false, 0)", 3)
        .due("consent(0, 2, false, 0)", 4).due("use(0, 6, 5)", 5).due("use(0, 3, 5)", 5)
        .badState("use(0, 4, 5)");
  }

  private static void dayOfMinute() {
    Run run = new Run("\"the day of a minute m is m / 1440\"");
    run.due("kind(1)", 0).due("duty(0, 0, 1)", 1).due("put(0, 0, 5, 0)", 0).due("put(0, 0, 6, 1)", 1)
        .due("put(0, 0, 7, 6943)", 2).due("put(0, 0, 8, 6944)", 3);
    run.due("use(0, 0, 0)", 5).due("use(0, 0, 1439)", 5).badState("use(0, 0, 1440)");
    run.badState("use(1, 0, 1439)").due("use(1, 0, 1440)", 6).due("use(1, 0, 2879)", 6)
        .badState("use(1, 0, 2880)");
    run.badState("use(2, 0, 9997919)").due("use(2, 0, 9997920)", 7).due("use(2, 0, 9999359)", 7)
        .badState("use(2, 0, 9999360)");
    run.badState("use(3, 0, 9999359)").due("use(3, 0, 9999360)", 8).due("use(3, 0, 10000000)", 8);
  }

  private static void dayOfMinuteWhenErasing() {
    new Run("14 \"on the day of a minute\"").due("kind(1)", 0).due("duty(0, 0, 1)", 1)
        .due("put(0, 0, 5, 0)", 0).due("put(1, 0, 6, 1)", 1).due("put(2, 0, 7, 6944)", 2)
        .due("put(3, 0, 8, 6944)", 3).due("put(4, 0, 9, 1)", 4).due("erase(0, 0)", 0)
        .due("erase(0, 1439)", 0).due("erase(0, 1440)", 1).due("erase(1, 1440)", 0)
        .due("erase(1, 2879)", 0).due("erase(1, 1439)", 1).due("erase(2, 9999360)", 0)
        .due("erase(2, 10000000)", 0).due("erase(2, 9999359)", 1).due("erase(3, 0)", 1)
        .due("erase(4, 2880)", 1);
  }

  private static void copy() {
    new Run("8 \"a copy of one (its value is that one's)\", \"b is not looked at\"").due("kind(1)", 0)
        .due("put(0, 0, -2147483648, 3)", 0).due("put(1, 0, 2147483647, 9)", 1)
        .due("derive(0, 0, 1)", 2).due("derive(0, 1, 1)", 3).due("derive(0, 0, -1)", 4)
        .due("derive(0, 1, 2147483647)", 5).due("derive(0, 3, -2147483648)", 6)
        .due("peek(2)", -2147483648L).due("look(2, 1)", 3).due("look(2, 2)", 1).due("look(1, 4)", 2)
        .due("peek(3)", 2147483647L).due("peek(4)", -2147483648L).due("peek(6)", 2147483647L)
        .due("erase(1, 0)", 4).due("peek(2)", -2147483648L).due("derive(0, 0, 1)", 7);
  }

  private static void sum() {
    Run run = new Run("8 \"the sum of those that live\"");
    run.due("kind(1)", 0).due("put(0, 0, 5, 0)", 0).due("put(1, 0, -8, 0)", 1)
        .due("put(2, 0, 8, 0)", 2).due("derive(1, 0, 1)", 3).due("derive(1, 1, 0)", 4)
        .due("derive(1, 1, 2)", 5);
    run.due("peek(3)", -3).due("peek(4)", -3).due("peek(5)", 0).due("erase(1, 0)", 1)
        .due("peek(3)", 5).due("peek(4)", 5).due("peek(5)", 8).due("erase(2, 0)", 2)
        .due("peek(5)", 0).due("look(5, 0)", -1).due("peek(3)", 5).due("erase(0, 0)", 3);
  }

  private static void flag() {
    new Run("8 \"1 when the first one's value is greater, else 0\"").due("kind(1)", 0)
        .due("put(0, 0, 5, 0)", 0).due("put(0, 0, 6, 0)", 1).due("put(0, 0, 5, 0)", 2)
        .due("derive(2, 0, 1)", 3).due("derive(2, 1, 0)", 4).due("derive(2, 0, 2)", 5)
        .due("derive(2, 2, 0)", 6).due("peek(3)", 0).due("peek(4)", 1).due("peek(5)", 0)
        .due("peek(6)", 0).due("derive(2, 4, 3)", 7).due("derive(2, 3, 4)", 8).due("peek(7)", 1)
        .due("peek(8)", 0);
  }

  private static void flagOfNegatives() {
    new Run("8 a flag of the least and the greatest value").due("kind(1)", 0)
        .due("put(0, 0, -2147483648, 0)", 0).due("put(0, 0, 2147483647, 0)", 1)
        .due("put(0, 0, 0, 0)", 2).due("put(0, 0, -1, 0)", 3).due("derive(2, 0, 1)", 4)
        .due("derive(2, 1, 0)", 5).due("derive(2, 2, 3)", 6).due("derive(2, 3, 2)", 7)
        .due("derive(2, 3, 0)", 8).due("derive(2, 2, 0)", 9).due("peek(4)", 0).due("peek(5)", 1)
        .due("peek(6)", 1).due("peek(7)", 0).due("peek(8)", 1).due("peek(9)", 1);
  }

  private static void kindOfTheFirst() {
    new Run("\"its kind is that of the first input\"").due("kind(1)", 0).due("kind(1)", 1)
        .due("put(0, 0, 5, 0)", 0).due("put(0, 1, 6, 0)", 1).due("derive(1, 0, 1)", 2)
        .due("derive(1, 1, 0)", 3).due("derive(2, 0, 1)", 4).due("derive(2, 1, 0)", 5)
        .due("derive(0, 1, 0)", 6).due("derive(1, 3, 2)", 7).due("look(2, 0)", 0)
        .due("look(3, 0)", 1).due("look(4, 0)", 0).due("look(5, 0)", 1).due("look(6, 0)", 1)
        .due("look(7, 0)", 1);
  }

  private static void dayTheLater() {
    new Run("\"its day the later one of theirs\"").due("kind(1)", 0).due("put(0, 0, 5, 0)", 0)
        .due("put(0, 0, 6, 6944)", 1).due("put(0, 0, 7, 6943)", 2).due("put(0, 0, 7, 6943)", 3)
        .due("derive(1, 0, 1)", 4).due("derive(1, 1, 0)", 5).due("derive(2, 1, 2)", 6)
        .due("derive(2, 2, 1)", 7).due("derive(1, 2, 3)", 8).due("derive(0, 0, 1)", 9)
        .due("derive(2, 9, 8)", 10).due("look(4, 1)", 6944).due("look(5, 1)", 6944)
        .due("look(6, 1)", 6944).due("look(7, 1)", 6944).due("look(8, 1)", 6943)
        .due("look(9, 1)", 0).due("look(10, 1)", 6943);
  }

  private static void personsOfAll() {
    Run run = new Run("\"its persons are all of theirs\"");
    run.due("kind(1)", 0);
    for (int person = 0; person < 16; person++) {
      run.due("put(" + person + ", 0, 1, 0)", person);
    }
    run.due("derive(1, 0, 15)", 16).due("look(16, 2)", 32769);
    run.due("derive(2, 0, 1)", 17);
    for (int person = 2; person < 16; person++) {
      run.due("derive(1, " + (15 + person) + ", " + person + ")", 16 + person);
      run.due("look(" + (16 + person) + ", 2)", (1 << person + 1) - 1);
    }
    run.due("look(31, 2)", 65535).due("derive(0, 31, 0)", 32).due("look(32, 2)", 65535)
        .due("held(15, 0)", 15).due("held(15, 1)", 16).due("held(15, 2)", 31).due("held(15, 3)", 32)
        .due("held(15, 4)", -1);
    run.due("put(0, 0, 1, 0)", 33).due("derive(1, 0, 33)", 34).due("look(34, 2)", 1);
  }

  private static void personsAsTheyWereThen() {
    Run run = new Run("\"(as they were then)\": persons, kind and day outlive an input");
    run.due("kind(1)", 0).due("kind(1)", 1).due("put(3, 0, 5, 8)", 0).due("put(4, 1, 6, 2)", 1)
        .due("derive(1, 0, 1)", 2).due("erase(3, 0)", 1).due("look(2, 0)", 0).due("look(2, 1)", 8)
        .due("look(2, 2)", 24).due("held(3, 0)", 2).due("held(3, 1)", -1);
    run.due("derive(0, 2, 0)", 3).due("look(3, 0)", 0).due("look(3, 1)", 8).due("look(3, 2)", 24);
    run.due("consent(4, 0, true, 0)", 1).badState("use(2, 0, 0)").due("consent(3, 0, true, 0)", 2)
        .due("use(2, 0, 0)", 6).due("hold(3, 0, 5)", 0).due("erase(4, 7200)", 0)
        .due("erase(4, 7199)", 3);
  }

  private static void valueFollows() {
    Run run = new Run("\"its value follows theirs\"");
    run.due("kind(1)", 0).due("put(0, 0, 10, 0)", 0).due("put(1, 0, 3, 0)", 1)
        .due("put(2, 0, 5, 0)", 2).due("derive(1, 0, 1)", 3).due("derive(0, 3, 0)", 4)
        .due("derive(1, 4, 3)", 5).due("derive(2, 5, 2)", 6).due("derive(2, 2, 4)", 7)
        .due("derive(1, 6, 7)", 8).due("derive(0, 8, 0)", 9).due("contract(1, 0, 0, 9)", 1);
    run.due("peek(5)", 26).due("peek(6)", 1).due("peek(7)", 0).due("peek(9)", 1).due("use(5, 0, 0)", 26)
        .due("erase(0, 0)", 1).due("peek(3)", 3).due("peek(4)", 3).due("peek(5)", 6)
        .due("peek(6)", 1).due("peek(7)", 1).due("peek(8)", 2).due("peek(9)", 2)
        .due("use(5, 0, 0)", 6).due("use(9, 0, 0)", 2);
    run.due("erase(2, 0)", 5).due("peek(5)", 6).due("peek(9)", 0);
  }

  private static void sumsBeyondInt() {
    new Run("\"values have 64 bits\"").due("kind(1)", 0).due("put(0, 0, 2147483647, 0)", 0)
        .due("put(0, 0, 1, 0)", 1).due("put(0, 0, -2147483648, 0)", 2).due("put(0, 0, -1, 0)", 3)
        .due("derive(1, 0, 1)", 4).due("derive(1, 2, 3)", 5).due("derive(0, 4, 0)", 6)
        .due("derive(1, 5, 3)", 7).due("derive(2, 4, 0)", 8).due("derive(2, 5, 2)", 9)
        .due("contract(0, 0, 0, 0)", 1).due("peek(4)", 2147483648L).due("peek(5)", -2147483649L)
        .due("peek(6)", 2147483648L).due("use(6, 0, 0)", 2147483648L)
        .due("use(7, 0, 0)", -2147483650L).due("peek(8)", 1).due("peek(9)", 0);
  }

  /** Items 0 to 2n: the value doubled n times, by a copy and the sum of both. */
  private static Run doubled(String name, int value, int times) {
    Run run = new Run(name).due("kind(1)", 0).due("put(0, 0, " + value + ", 0)", 0);
    for (int i = 0; i < times; i++) {
      run.due("derive(0, " + 2 * i + ", 0)", 2 * i + 1)
          .due("derive(1, " + 2 * i + ", " + (2 * i + 1) + ")", 2 * i + 2);
    }
    return run;
  }

  private static void largestSum() {
    Run run = doubled("\"sums run over\": above the greatest", 1 << 30, 32);
    run.due("peek(64)", 1L << 62).due("put(1, 0, -1, 0)", 65).due("put(2, 0, 1, 0)", 66);
    run.due("derive(1, 64, 65)", 67).due("derive(1, 67, 64)", 68).due("peek(67)", (1L << 62) - 1)
        .due("peek(68)", Long.MAX_VALUE);
    run.due("derive(1, 68, 66)", 69).due("peek(69)", Long.MIN_VALUE).due("derive(1, 66, 68)", 70)
        .due("peek(70)", Long.MIN_VALUE);
    run.due("derive(1, 69, 65)", 71).due("peek(71)", Long.MAX_VALUE);
    run.due("derive(1, 69, 70)", 72).due("peek(72)", 0).due("derive(1, 68, 71)", 73)
        .due("peek(73)", -2);
    run.due("contract(0, 0, 0, 0)", 1).due("use(68, 0, 0)", Long.MAX_VALUE)
        .due("use(69, 0, 0)", Long.MIN_VALUE);
    run.due("erase(2, 0)", 1).due("peek(69)", Long.MAX_VALUE).due("peek(72)", -2);
  }

  private static void smallestSum() {
    Run run = doubled("\"sums run over\": below the least", -(1 << 30), 33);
    run.due("peek(64)", -(1L << 62)).due("peek(66)", Long.MIN_VALUE).due("put(1, 0, -1, 0)", 67)
        .due("derive(1, 66, 67)", 68).due("peek(68)", Long.MAX_VALUE).due("derive(0, 66, 0)", 69)
        .due("derive(1, 66, 69)", 70).due("peek(70)", 0);
  }

  private static void flagsOfSumsRunOver() {
    Run run = doubled("a flag of sums that ran over", 1 << 30, 33);
    run.due("put(1, 0, -1, 0)", 67).due("derive(1, 66, 67)", 68).due("derive(2, 66, 68)", 69)
        .due("derive(2, 68, 66)", 70).due("derive(2, 66, 67)", 71).due("derive(2, 67, 66)", 72)
        .due("derive(2, 68, 64)", 73).due("peek(66)", Long.MIN_VALUE).due("peek(68)", Long.MAX_VALUE)
        .due("peek(69)", 0).due("peek(70)", 1).due("peek(71)", 0).due("peek(72)", 1)
        .due("peek(73)", 1);
  }

  private static void longestChain() {
    Run run = new Run("ninety-nine copies, one of the other");
    run.due("kind(1)", 0).due("put(0, 0, 5, 0)", 0);
    for (int i = 1; i < 100; i++) {
      run.due("derive(0, " + (i - 1) + ", 0)", i);
    }
    run.due("contract(0, 0, 0, 0)", 1).due("peek(99)", 5).due("use(99, 0, 0)", 5)
        .due("hold(100, 0, 7)", 0).due("erase(0, 10080)", 0).due("state(3)", 100)
        .due("erase(0, 10079)", 100).due("peek(99)", 0).due("state(3)", 0);
  }
}
