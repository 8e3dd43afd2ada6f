/** Promises 7 and 8: items that are put, and items derived from others. */
public final class ItemsTest {
  public static void main(String[] args) {
    put();
    putLimits();
    derive();
    deriveRefuses();
    deriveLimits();
    valuesFollow();
    longChain();
    Run.end();
  }

  private static void put() {
    Run run = new Run("7 put");
    run.badArgument("put(0, 0, 1, 1)").due("kind(5)", 0).due("kind(6)", 1);
    run.badArgument("put(-1, 0, 1, 1)").badArgument("put(16, 0, 1, 1)")
        .badArgument("put(0, -1, 1, 1)").badArgument("put(0, 2, 1, 1)")
        .badArgument("put(0, 0, 1, -1)").badArgument("put(0, 0, 1, 6945)").due("state(2)", 0);
    run.due("put(0, 1, -2147483648, 0)", 0).due("put(15, 0, 2147483647, 6944)", 1);
    run.due("peek(0)", -2147483648L).due("peek(1)", 2147483647L).due("look(0, 0)", 1)
        .due("look(0, 1)", 0).due("look(0, 2)", 1).due("look(1, 0)", 0).due("look(1, 1)", 6944)
        .due("look(1, 2)", 32768).due("state(2)", 2).due("state(3)", 2);
  }

  private static void putLimits() {
    Run run = new Run("7 put at most 100");
    run.due("kind(5)", 0).dueCounting("put(0, 0, 1, 1)", 60, 0).due("erase(0, 0)", 60)
        .dueCounting("put(1, 0, 1, 1)", 40, 60).due("state(2)", 100).due("state(3)", 40);
    run.badState("put(1, 0, 1, 1)").badArgument("put(16, 0, 1, 1)").badArgument("put(1, 1, 1, 1)")
        .badArgument("put(1, 0, 1, 6945)").due("state(2)", 100).due("state(3)", 40)
        .due("peek(99)", 1).due("peek(100)", 0);
  }

  private static void derive() {
    Run run = new Run("8 derive");
    run.due("kind(5)", 0).due("kind(6)", 1).due("put(2, 0, 7, 30)", 0).due("put(5, 1, 4, 20)", 1);
    run.due("derive(0, 1, 77)", 2).due("peek(2)", 4).due("look(2, 0)", 1).due("look(2, 1)", 20)
        .due("look(2, 2)", 32);
    run.due("derive(1, 1, 0)", 3).due("peek(3)", 11).due("look(3, 0)", 1).due("look(3, 1)", 30)
        .due("look(3, 2)", 36);
    run.due("derive(1, 0, 1)", 4).due("look(4, 0)", 0).due("look(4, 1)", 30).due("peek(4)", 11);
    run.due("derive(2, 0, 1)", 5).due("peek(5)", 1).due("derive(2, 1, 0)", 6).due("peek(6)", 0)
        .due("derive(2, 1, 2)", 7).due("peek(7)", 0);
    run.due("derive(0, 0, 0)", 8).due("peek(8)", 7).due("derive(0, 0, -5)", 9).due("peek(9)", 7);
    run.due("state(2)", 10).due("state(3)", 10);
  }

  private static void deriveRefuses() {
    Run run = new Run("8 derive refuses");
    run.due("kind(5)", 0).due("put(2, 0, 7, 30)", 0).due("put(3, 0, 7, 30)", 1)
        .due("erase(3, 0)", 1).due("put(4, 0, 7, 30)", 2);
    run.badArgument("derive(-1, 0, 2)").badArgument("derive(3, 0, 2)").badArgument("derive(1, 0, 0)")
        .badArgument("derive(2, 2, 2)").badArgument("derive(1, 9, 9)").badArgument("derive(2, -1, -1)")
        .badArgument("derive(3, 9, 1)").badArgument("derive(-2147483648, 0, 0)");
    run.noElement("derive(0, 1, 0)").noElement("derive(0, 3, 0)").noElement("derive(0, -1, 0)")
        .noElement("derive(1, 0, 1)").noElement("derive(1, 1, 0)").noElement("derive(2, 0, 1)")
        .noElement("derive(2, 3, 0)").noElement("derive(1, 0, 3)").noElement("derive(2, 0, -1)")
        .noElement("derive(1, 2147483647, 0)").noElement("derive(1, 0, -2147483648)");
    run.due("state(2)", 3).due("derive(0, 0, 1)", 3);
  }

  private static void deriveLimits() {
    Run run = new Run("8 derive at most 100");
    run.due("kind(5)", 0).dueCounting("put(0, 0, 1, 1)", 50, 0).dueCounting("derive(0, 3, 0)", 50, 50);
    run.badState("derive(0, 3, 0)").badState("derive(1, 0, 1)").badState("put(0, 0, 1, 1)")
        .badArgument("derive(1, 0, 0)").badArgument("derive(4, 0, 1)").noElement("derive(1, 0, 100)")
        .due("state(2)", 100).due("look(3, 4)", 50);
  }

  private static void valuesFollow() {
    Run run = new Run("8 values follow");
    run.due("kind(5)", 0).due("put(0, 0, 7, 1)", 0).due("put(1, 0, 5, 1)", 1).due("put(2, 0, 6, 1)", 2);
    run.due("derive(1, 0, 1)", 3).due("derive(0, 3, 0)", 4).due("derive(1, 4, 2)", 5)
        .due("derive(2, 3, 2)", 6).due("derive(2, 2, 3)", 7);
    run.due("peek(5)", 18).due("peek(6)", 1).due("peek(7)", 0).due("erase(0, 0)", 1);
    run.due("peek(3)", 5).due("peek(4)", 5).due("peek(5)", 11).due("peek(6)", 0).due("peek(7)", 1)
        .due("look(3, 2)", 3).due("look(4, 2)", 3).due("look(5, 2)", 7).due("derive(0, 3, 0)", 8)
        .due("look(8, 2)", 3);
  }

  private static void longChain() {
    Run run = new Run("8 a long chain, and sums that run over");
    run.due("kind(5)", 0).due("put(0, 0, 1, 1)", 0).due("derive(0, 0, 0)", 1);
    for (int i = 2; i < 100; i++) {
      run.due("derive(1, " + (i - 1) + ", " + (i - 2) + ")", i);
    }
    long before = 1;
    long last = 1;
    for (int i = 2; i < 100; i++) {
      long next = before + last;
      before = last;
      last = next;
    }
    run.due("peek(99)", last).due("peek(98)", before).due("erase(0, 0)", 100).due("peek(99)", 0);
  }
}
