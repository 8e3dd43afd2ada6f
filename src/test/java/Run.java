import java.lang.reflect.InvocationTargetException;
import java.lang.reflect.Method;

/** One run of calls, written as texts, on a new object; tells each answer that is not the one due. */
final class Run {
  private static final int MOST_CALLS = 512;
  private static int wrong = 0;

  private final String name;
  private final ConsentRegister register = new ConsentRegister();
  private int calls;

  Run(String name) {
    this.name = name;
  }

  Run due(String call, long answer) {
    return due(call, Long.toString(answer));
  }

  /** A call whose method answers nothing. */
  Run goes(String call) {
    return due(call, "nothing");
  }

  Run badArgument(String call) {
    return due(call, "throws.IllegalArgumentException");
  }

  Run badState(String call) {
    return due(call, "throws.IllegalStateException");
  }

  Run noElement(String call) {
    return due(call, "throws.NoSuchElementException");
  }

  /** The same call several times, whose answers count up from the first one. */
  Run dueCounting(String call, int times, int first) {
    for (int i = 0; i < times; i++) {
      due(call, first + i);
    }
    return this;
  }

  /** With each number outside of these two for the call's sign #; the nearest ones and the farthest. */
  Run outside(String call, int first, int last) {
    for (int number : new int[] {Integer.MIN_VALUE, first - 1, last + 1, Integer.MAX_VALUE}) {
      badArgument(with(call, number));
    }
    return this;
  }

  /**
   * The call's sign # may be a number from the first to the last one. The answers count up, so that
   * a refused call that was counted all the same is seen.
   */
  Run takes(String call, int first, int last, int answer) {
    return outside(call, first, last).due(with(call, first), answer).outside(call, first, last)
        .due(with(call, last), answer + 1).outside(call, first, last);
  }

  static String with(String call, int number) {
    return call.replace("#", Integer.toString(number));
  }

  int callsMade() {
    return calls;
  }

  Run due(String call, String answer) {
    calls++;
    if (calls > MOST_CALLS) {
      tell(name + ": the document does not say what " + call + " answers, which is call " + calls);
    }
    String got = answer(register, call);
    if (!got.equals(answer)) {
      tell(name + ": " + call + " answered " + got + ", due is " + answer);
    }
    return this;
  }

  static void tell(String fault) {
    wrong++;
    System.out.println(fault);
  }

  /** To be called last by each test's main. */
  static void end() {
    System.out.println(wrong == 0 ? "all answers are as due" : wrong + " answers are not as due");
    if (wrong != 0) {
      System.exit(1);
    }
  }

  /** The answer of a call, or the exception's name behind "throws.". */
  static String answer(Object target, String call) {
    int open = call.indexOf('(');
    String inside = call.substring(open + 1, call.length() - 1).trim();
    String[] words = inside.isEmpty() ? new String[0] : inside.split("\\s*,\\s*");
    Method method = methodOf(target, call.substring(0, open));
    Object[] arguments = new Object[words.length];
    for (int i = 0; i < words.length; i++) {
      arguments[i] = method.getParameterTypes()[i] == boolean.class
          ? (Object) Boolean.valueOf(words[i]) : (Object) Integer.valueOf(words[i]);
    }
    try {
      Object result = method.invoke(target, arguments);
      return method.getReturnType() == void.class ? "nothing" : result.toString();
    } catch (InvocationTargetException e) {
      return "throws." + e.getCause().getClass().getSimpleName();
    } catch (IllegalAccessException e) {
      throw new IllegalStateException(e);
    }
  }

  private static Method methodOf(Object target, String name) {
    for (Method method : target.getClass().getDeclaredMethods()) {
      if (method.getName().equals(name)) {
        return method;
      }
    }
    throw new IllegalArgumentException("there is no method " + name);
  }
}
