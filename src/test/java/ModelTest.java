import java.util.ArrayList;
import java.util.List;
import java.util.Random;

/** All promises: long runs of drawn calls, each answered by the class and by the model alike. */
public final class ModelTest {
  private static final String[] CALLS = {
      "purpose", "kind", "consent", "contract", "duty", "put", "derive", "event", "hold", "lift",
      "use", "why", "erase", "sweep", "held", "logged", "peek", "look", "state"};
  private static final int[] OFTEN = {
      2, 2, 8, 4, 2, 12, 14, 6, 3, 3, 25, 4, 2, 2, 6, 4, 8, 10, 3};
  private static final int[] FAR = {
      Integer.MIN_VALUE, -101, -100, -1, 100, 107, 108, 5000, 5001, 6944, 6945, 10000000, 10000001,
      Integer.MAX_VALUE};
  private static final int RUNS = 1500;
  private static final int CALLS_OF_A_RUN = 512;

  private final Random random;
  private final int[] weights = new int[CALLS.length];
  private final int persons;
  private final int lastDay;
  private final int wrongOfThousand;
  private final List<String> calls = new ArrayList<>();

  public static void main(String[] args) {
    for (int seed = 0; seed < RUNS; seed++) {
      if (!new ModelTest(seed).agrees(seed)) {
        break;
      }
    }
    Run.end();
  }

  /** Each run has a world of its own: few persons and days make calls meet, many reach the edges. */
  private ModelTest(int seed) {
    random = new Random(seed);
    persons = random.nextInt(4) == 0 ? 16 : 1 + random.nextInt(4);
    lastDay = random.nextInt(4) == 0 ? 6944 : 5 + random.nextInt(60);
    wrongOfThousand = random.nextInt(3) * 15;
    for (int i = 0; i < weights.length; i++) {
      weights[i] = random.nextInt(6) == 0 ? OFTEN[i] * 6 : OFTEN[i];
      weights[i] = random.nextInt(10) == 0 ? 0 : weights[i];
    }
  }

  private boolean agrees(int seed) {
    ConsentRegister register = new ConsentRegister();
    Model model = new Model();
    for (int i = 0; i < CALLS_OF_A_RUN; i++) {
      String call = i == 0 ? "kind(" + (1 + random.nextInt(20)) + ")" : nextCall(model);
      String due = Run.answer(model, call);
      String got = Run.answer(register, call);
      calls.add(call + " -> " + due);
      if (!got.equals(due)) {
        calls.forEach(System.out::println);
        Run.tell("model run " + seed + ": " + call + " answered " + got + ", due is " + due);
        return false;
      }
    }
    return true;
  }

  private String nextCall(Model model) {
    int total = 0;
    for (int weight : weights) {
      total += weight;
    }
    int drawn = random.nextInt(Math.max(1, total));
    int which = 0;
    while (which < CALLS.length - 1 && drawn >= weights[which]) {
      drawn -= weights[which];
      which++;
    }
    return CALLS[which] + "(" + arguments(CALLS[which], model) + ")";
  }

  private String arguments(String name, Model model) {
    return switch (name) {
      case "purpose" -> purpose(model);
      case "kind" -> number(1, random.nextInt(4) == 0 ? 5000 : lastDay / 6 + 1);
      case "consent" -> person() + ", " + purpose(model) + ", " + random.nextBoolean() + ", " + minute();
      case "contract" -> person() + ", " + purpose(model) + ", " + span();
      case "duty" -> kind(model) + ", " + purpose(model) + ", " + number(1, lastDay / 4 + 1);
      case "put" -> person() + ", " + kind(model) + ", " + value() + ", " + day();
      case "derive" -> number(0, 2) + ", " + item(model) + ", " + item(model);
      case "event" -> person() + ", " + kind(model) + ", " + day();
      case "hold" -> (random.nextBoolean() ? person() : markedKind(model)) + ", " + purpose(model)
          + ", " + day();
      case "lift" -> number(0, model.state(5)) + ", " + day();
      case "use" -> item(model) + ", " + purpose(model) + ", " + minute();
      case "erase" -> person() + ", " + minute();
      case "sweep" -> random.nextBoolean() ? day() : number(lastDay, Math.min(6944, lastDay + 20));
      case "held" -> person() + ", " + number(0, random.nextInt(20));
      case "logged" -> number(0, model.state(4)) + ", " + number(0, 4);
      case "peek" -> item(model);
      case "look" -> item(model) + ", " + number(0, 5);
      case "state" -> number(0, 6);
      default -> "";
    };
  }

  private String person() {
    return number(0, persons - 1);
  }

  private String purpose(Model model) {
    return number(0, model.state(0) - 1);
  }

  private String kind(Model model) {
    return number(0, model.state(1) - 1);
  }

  private String markedKind(Model model) {
    return number(100, 99 + model.state(1));
  }

  private String day() {
    return number(0, lastDay);
  }

  private String minute() {
    int minute = random.nextInt(lastDay + 1) * 1440;
    int near = random.nextInt(3);
    return number(Math.max(0, minute - near), Math.min(10000000, minute + near));
  }

  private String span() {
    int from = random.nextInt(lastDay + 1) * 1440;
    int to = Math.min(10000000, from + random.nextInt(3 * 1440));
    return number(from, from) + ", " + number(to, to);
  }

  private String value() {
    return String.valueOf(random.nextInt(3) == 0 ? random.nextInt() : random.nextInt(5) - 2);
  }

  /** Mostly late ones, which are likely to live. */
  private String item(Model model) {
    int total = model.state(2);
    int first = random.nextInt(3) == 0 ? 0 : Math.max(0, total - 12);
    return number(first, random.nextInt(30) == 0 ? total : Math.max(first, total - 1));
  }

  private String number(int first, int last) {
    if (random.nextInt(1000) < wrongOfThousand) {
      int edge = random.nextInt(4);
      int far = FAR[random.nextInt(FAR.length)];
      return String.valueOf(edge == 0 ? first - 1 : edge == 1 ? last + 1 : far);
    }
    return String.valueOf(first + random.nextInt(Math.max(1, last - first + 1)));
  }
}
