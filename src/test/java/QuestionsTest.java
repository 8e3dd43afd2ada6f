/** Promises 16 to 20: held, logged, peek, look, state. */
public final class QuestionsTest {
  public static void main(String[] args) {
    held();
    logged();
    peek();
    look();
    state();
    Run.end();
  }

  private static Run start(String name) {
    return new Run(name).due("kind(5)", 0).due("kind(6)", 1).due("put(0, 1, 10, 30)", 0)
        .due("put(15, 0, -20, 40)", 1).due("derive(1, 0, 1)", 2).due("derive(0, 1, 0)", 3)
        .due("put(0, 0, 5, 1)", 4);
  }

  private static void held() {
    Run run = start("16 held");
    run.due("held(0, 0)", 0).due("held(0, 1)", 2).due("held(0, 2)", 4).due("held(0, 3)", -1)
        .due("held(15, 0)", 1).due("held(15, 1)", 2).due("held(15, 2)", 3).due("held(15, 3)", -1)
        .due("held(1, 0)", -1).due("held(0, -1)", -1).due("held(-1, 0)", -1).due("held(16, 0)", -1)
        .due("held(32, 0)", -1).due("held(47, 0)", -1).due("held(-2147483648, 0)", -1)
        .due("held(0, 2147483647)", -1).due("held(0, -2147483648)", -1);
    run.due("erase(0, 0)", 2).due("held(0, 0)", 2).due("held(0, 1)", -1).due("held(15, 1)", 2)
        .due("erase(15, 0)", 3).due("held(15, 0)", -1).due("held(0, 0)", -1);
  }

  private static void logged() {
    Run run = start("17 logged");
    run.due("purpose(0)", 1).due("consent(0, 1, true, 70)", 1).due("use(4, 1, 77)", 5)
        .badState("use(2, 1, 78)").badState("use(4, 0, 79)");
    run.due("logged(0, 0)", 4).due("logged(0, 1)", 1).due("logged(0, 2)", 77).due("logged(0, 3)", 1)
        .due("logged(1, 0)", 2).due("logged(1, 1)", 1).due("logged(1, 2)", 78).due("logged(1, 3)", 0)
        .due("logged(2, 1)", 0).due("logged(2, 2)", 79);
    run.due("logged(3, 0)", -1).due("logged(-1, 0)", -1).due("logged(0, 4)", -1)
        .due("logged(0, -1)", -1).due("logged(2147483647, 0)", -1).due("logged(-2147483648, 3)", -1)
        .due("logged(0, 2147483647)", -1);
    run.due("erase(0, 0)", 2).due("logged(0, 0)", 4).due("logged(0, 2)", 77).due("state(4)", 3);
  }

  private static void peek() {
    Run run = start("18 peek");
    run.due("peek(0)", 10).due("peek(1)", -20).due("peek(2)", -10).due("peek(3)", -20)
        .due("peek(5)", 0).due("peek(-1)", 0).due("peek(100)", 0).due("peek(2147483647)", 0)
        .due("peek(-2147483648)", 0).due("state(4)", 0).due("why()", -1);
    run.due("erase(15, 0)", 2).due("peek(1)", 0).due("peek(3)", 0).due("peek(2)", 10);
  }

  private static void look() {
    Run run = start("19 look");
    run.due("look(2, 0)", 1).due("look(2, 1)", 40).due("look(2, 2)", 32769).due("look(2, 3)", -1)
        .due("look(2, 4)", 0).due("look(1, 0)", 0).due("look(1, 1)", 40).due("look(1, 2)", 32768)
        .due("look(1, 4)", 2).due("look(0, 4)", 1).due("look(0, 3)", -1);
    run.due("look(0, 5)", -1).due("look(0, -1)", -1).due("look(0, 2147483647)", -1)
        .due("look(5, 0)", -1).due("look(-1, 0)", -1).due("look(100, 4)", -1)
        .due("look(2147483647, 1)", -1).due("look(-2147483648, 2)", -1);
    run.due("event(0, 1, 30)", 1).due("look(0, 3)", 36).due("look(2, 3)", -1).due("look(4, 3)", -1);
    run.due("derive(0, 3, 0)", 5).due("look(1, 4)", 2).due("look(3, 4)", 1).due("look(5, 4)", 0);
    run.due("erase(15, 0)", 3).due("look(1, 4)", -1).due("look(1, 0)", -1).due("look(3, 2)", -1)
        .due("look(3, 3)", -1).due("look(0, 4)", 1).due("look(2, 2)", 32769).due("look(2, 1)", 40);
    run.due("derive(2, 0, 2)", 6).due("look(0, 4)", 2).due("look(2, 4)", 1).due("erase(0, 0)", 4)
        .due("look(0, 4)", -1).due("look(0, 3)", -1);
  }

  private static void state() {
    Run run = start("20 state");
    run.due("purpose(0)", 1).due("purpose(0)", 2).due("hold(0, 0, 0)", 0).goes("lift(0, 0)")
        .due("hold(101, 0, 6944)", 1).due("hold(1, 0, 0)", 2).due("hold(1, 0, 0)", 3)
        .badState("use(0, 0, 0)");
    run.due("state(0)", 3).due("state(1)", 2).due("state(2)", 5).due("state(3)", 5)
        .due("state(4)", 1).due("state(5)", 4).due("state(6)", -1).due("state(-1)", -1)
        .due("state(2147483647)", -1).due("state(-2147483648)", -1);
    run.due("erase(0, 0)", 2).due("state(2)", 5).due("state(3)", 3);
  }
}
