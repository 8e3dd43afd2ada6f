import java.io.IOException;
import java.lang.reflect.Method;
import java.lang.reflect.Modifier;
import java.nio.file.Files;
import java.nio.file.Path;
import java.util.HashMap;
import java.util.List;
import java.util.Map;
import java.util.regex.Matcher;
import java.util.regex.Pattern;
import java.util.stream.Stream;

/** README.md: the calls of its example answer as it says, and it names each call and each test. */
public final class ReadmeTest {
  private static final String FIRST_LINE = "ConsentRegister register = new ConsentRegister();";
  private static final Pattern CALL = Pattern.compile(
      "(?:(int|long) (\\w+) = )?register\\.(\\w+)\\((.*)\\); +// (-?\\d+|nothing)(?::.*)?");

  public static void main(String[] args) throws IOException {
    String page = Files.readString(Path.of("README.md"));
    example(page);
    namesEachCall(page);
    namesEachTest(page);
    Run.end();
  }

  private static void example(String page) {
    int start = page.indexOf("```java\n");
    int end = page.indexOf("\n```\n", start);
    if (start < 0 || end < 0) {
      Run.tell("README: there is no example");
      return;
    }
    List<String> lines = page.substring(start + 8, end).lines().toList();
    if (!lines.get(0).equals(FIRST_LINE)) {
      Run.tell("README: the example does not begin with " + FIRST_LINE);
    }
    Run run = new Run("README");
    Map<String, String> names = new HashMap<>();
    for (String line : lines.subList(1, lines.size())) {
      exampleLine(run, names, line);
    }
  }

  private static void exampleLine(Run run, Map<String, String> names, String line) {
    Matcher call = CALL.matcher(line);
    if (!call.matches()) {
      Run.tell("README: no call with its answer: " + line);
      return;
    }
    String arguments = call.group(4);
    for (Map.Entry<String, String> name : names.entrySet()) {
      arguments = arguments.replaceAll("\\b" + name.getKey() + "\\b", name.getValue());
    }
    run.due(call.group(3) + "(" + arguments.replace("_", "") + ")", call.group(5));
    if (!returnType(call.group(3)).equals(call.group(1) == null ? "void" : call.group(1))) {
      Run.tell("README: not the type of the call's answer: " + line);
    }
    if (call.group(2) != null && names.put(call.group(2), call.group(5)) != null) {
      Run.tell("README: a name that was given before: " + line);
    }
  }

  private static String returnType(String name) {
    for (Method method : ConsentRegister.class.getDeclaredMethods()) {
      if (method.getName().equals(name)) {
        return method.getReturnType().getName();
      }
    }
    return "none";
  }

  private static void namesEachCall(String page) {
    for (Method method : ConsentRegister.class.getDeclaredMethods()) {
      if (Modifier.isPublic(method.getModifiers()) && !page.contains("| `" + method.getName() + "(")) {
        Run.tell("README: it does not name " + method.getName());
      }
    }
  }

  private static void namesEachTest(String page) throws IOException {
    try (Stream<Path> files = Files.list(Path.of("src/test/java"))) {
      for (Path file : files.toList()) {
        String name = file.getFileName().toString().replace(".java", "");
        if (name.endsWith("Test") && !page.contains("| `" + name + "` |")) {
          Run.tell("README: it does not name " + name);
        }
      }
    }
  }
}
