import java.io.IOException;
import java.lang.reflect.Method;
import java.lang.reflect.Modifier;
import java.nio.file.Files;
import java.nio.file.Path;
import java.util.ArrayList;
import java.util.List;
import java.util.Random;
import java.util.regex.Matcher;
import java.util.regex.Pattern;

/** What of LANGUAGE.md the source shows, and its rule 7: no call ever throws by itself. */
public final class LanguageTest {
  private static final Path SOURCE = Path.of("src/main/java/ConsentRegister.java");
  private static final int MOST_LINES_OF_A_METHOD = 60;

  /** Nothing is caught at all, so that no exception of the machine's can be hidden. */
  private static final String[] RULED_OUT = {
      "\\btry\\b", "\\bcatch\\b", "\\bfinally\\b", "\\bsynchronized\\b", "\\bassert\\b", "\\bpackage\\b",
      "\\bprotected\\b", "\\bvolatile\\b", "\\bnative\\b", "static \\{", "->", "::", "Exact\\b", "@",
      "\\bfloat\\b", "\\bdouble\\b", "\\bObject\\b", "\\bThread\\b", "\\bSystem\\b", "\\bRandom\\b"};
  private static final int[] EDGES = {
      Integer.MIN_VALUE, Integer.MIN_VALUE + 100, -101, -100, -1, 0, 1, 15, 16, 31, 32, 99, 100, 107,
      108, 199, 200, 5000, 5001, 6944, 6945, 10_000_000, 10_000_001, Integer.MAX_VALUE};
  private static final int OBJECTS = 40;
  private static final int CALLS_OF_AN_OBJECT = 3_000;

  public static void main(String[] args) throws IOException {
    String source = Files.readString(SOURCE);
    String code = withoutTextsAndComments(source);
    signs(source);
    ruledOut(code);
    imports(code);
    exceptions(code);
    lengths(code);
    for (int seed = 0; seed < OBJECTS; seed++) {
      noCallThrowsByItself(seed);
    }
    Run.end();
  }

  private static void check(boolean fine, String fault) {
    if (!fine) {
      Run.tell("the language: " + fault);
    }
  }

  private static String withoutTextsAndComments(String source) {
    return source.replaceAll("\"[^\"\\n]*\"", "\"\"").replaceAll("(?s)/\\*.*?\\*/", "")
        .replaceAll("//[^\\n]*", "");
  }

  private static void signs(String source) {
    check(source.chars().allMatch(sign -> sign < 128), "a sign is not 1 to 127");
  }

  private static void ruledOut(String code) {
    for (String word : RULED_OUT) {
      check(!Pattern.compile(word).matcher(code).find(), "the source has " + word);
    }
  }

  private static void imports(String code) {
    Matcher line = Pattern.compile("import ([^;]*);").matcher(code);
    while (line.find()) {
      check(line.group(1).equals("java.util.NoSuchElementException"), line.group());
    }
  }

  private static void exceptions(String code) {
    Matcher thrown = Pattern.compile("\\bthrow\\b[^;]*;").matcher(code);
    while (thrown.find()) {
      check(thrown.group().matches(
          "throw new (IllegalArgument|IllegalState|NoSuchElement)Exception\\((\"\")?\\);"), thrown.group());
    }
  }

  /** From a method's first line to the bracket that stands as far to the left as it does. */
  private static void lengths(String code) {
    Matcher method = Pattern.compile("(?m)^( {2,4})(?! |\\}).*\\([^;{]*\\{\\n(?s:.*?)\\n\\1\\}$").matcher(code);
    int found = 0;
    for (int from = 0; method.find(from); from = method.start() + 1) {
      found++;
      check(method.group().lines().count() <= MOST_LINES_OF_A_METHOD, "too long: " + method.group());
    }
    check(found >= 19, "only " + found + " methods were found");
  }

  /** The document leaves answers after the 512th call free; that they come at all, it does not. */
  private static void noCallThrowsByItself(int seed) {
    Random random = new Random(seed);
    ConsentRegister register = new ConsentRegister();
    List<Method> face = face();
    for (int i = 0; i < CALLS_OF_AN_OBJECT; i++) {
      Method method = face.get(random.nextInt(face.size()));
      String call = drawn(method, random);
      String answer = Run.answer(register, call);
      check(!answer.startsWith("throws.") || isToldOf(method, answer.substring(7)),
          call + " answered " + answer + ", object " + seed + ", call " + (i + 1));
    }
  }

  private static List<Method> face() {
    List<Method> face = new ArrayList<>();
    for (Method method : ConsentRegister.class.getDeclaredMethods()) {
      if (Modifier.isPublic(method.getModifiers())) {
        face.add(method);
      }
    }
    face.sort((one, other) -> one.getName().compareTo(other.getName()));
    return face;
  }

  private static String drawn(Method method, Random random) {
    List<String> words = new ArrayList<>();
    for (Class<?> type : method.getParameterTypes()) {
      boolean far = random.nextInt(8) == 0;
      int number = far ? EDGES[random.nextInt(EDGES.length)] : random.nextInt(1 + random.nextInt(100));
      words.add(type == boolean.class ? String.valueOf(random.nextBoolean()) : String.valueOf(number));
    }
    return method.getName() + "(" + String.join(", ", words) + ")";
  }

  private static boolean isToldOf(Method method, String exception) {
    for (Class<?> type : method.getExceptionTypes()) {
      if (type.getSimpleName().equals(exception)) {
        return true;
      }
    }
    return false;
  }
}
