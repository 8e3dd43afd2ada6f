import java.lang.reflect.Constructor;
import java.lang.reflect.Field;
import java.lang.reflect.Method;
import java.lang.reflect.Modifier;
import java.util.Set;
import java.util.TreeSet;

/** The document's public face, and LANGUAGE.md's rules 1, 2, 5 and 11 as far as the class file shows them. */
public final class FaceTest {
  private static final String ARGUMENT = " throws IllegalArgumentException";
  private static final String ARGUMENT_STATE = ARGUMENT + ", IllegalStateException";
  private static final String ELEMENT_ARGUMENT_STATE =
      " throws NoSuchElementException, IllegalArgumentException, IllegalStateException";
  private static final Set<String> FACE = Set.of(
      "int purpose(int)" + ARGUMENT_STATE,
      "int kind(int)" + ARGUMENT_STATE,
      "int consent(int,int,boolean,int)" + ARGUMENT_STATE,
      "int contract(int,int,int,int)" + ARGUMENT_STATE,
      "int duty(int,int,int)" + ARGUMENT_STATE,
      "int put(int,int,int,int)" + ARGUMENT_STATE,
      "int derive(int,int,int)" + ELEMENT_ARGUMENT_STATE,
      "int event(int,int,int)" + ARGUMENT_STATE,
      "int hold(int,int,int)" + ARGUMENT_STATE,
      "void lift(int,int)" + ARGUMENT_STATE,
      "long use(int,int,int)" + ELEMENT_ARGUMENT_STATE,
      "int why()",
      "int erase(int,int)" + ARGUMENT,
      "int sweep(int)" + ARGUMENT,
      "int held(int,int)",
      "int logged(int,int)",
      "long peek(int)",
      "int look(int,int)",
      "int state(int)");

  public static void main(String[] args) {
    publicFace();
    membersAreHidden();
    nestedClasses();
    fields(ConsentRegister.class);
    Run.end();
  }

  private static void check(boolean fine, String fault) {
    if (!fine) {
      Run.tell("the face: " + fault);
    }
  }

  private static String signature(Method method) {
    StringBuilder text = new StringBuilder(method.getReturnType() + " " + method.getName() + "(");
    for (Class<?> type : method.getParameterTypes()) {
      text.append(text.charAt(text.length() - 1) == '(' ? "" : ",").append(type);
    }
    text.append(")");
    String before = " throws ";
    for (Class<?> type : method.getExceptionTypes()) {
      text.append(before).append(type.getSimpleName());
      before = ", ";
    }
    return text.toString();
  }

  private static void publicFace() {
    Set<String> found = new TreeSet<>();
    for (Method method : ConsentRegister.class.getDeclaredMethods()) {
      if (Modifier.isPublic(method.getModifiers())) {
        found.add(signature(method));
        check(!Modifier.isStatic(method.getModifiers()), method + " is static");
      }
    }
    check(found.equals(FACE), "the public methods are " + found);
    int modifiers = ConsentRegister.class.getModifiers();
    check(Modifier.isPublic(modifiers) && Modifier.isFinal(modifiers), "the class is not public final");
    Constructor<?>[] constructors = ConsentRegister.class.getDeclaredConstructors();
    check(constructors.length == 1 && constructors[0].getParameterCount() == 0
        && Modifier.isPublic(constructors[0].getModifiers()), "the constructor is not the one told");
  }

  private static Set<String> publicNames() {
    Set<String> names = new TreeSet<>();
    for (String signature : FACE) {
      names.add(signature.substring(signature.indexOf(' ') + 1, signature.indexOf('(')));
    }
    return names;
  }

  private static void membersAreHidden() {
    for (Method method : ConsentRegister.class.getDeclaredMethods()) {
      int modifiers = method.getModifiers();
      check(Modifier.isPublic(modifiers) || Modifier.isPrivate(modifiers), method + " is seen");
      check(Modifier.isPublic(modifiers) || !publicNames().contains(method.getName()),
          method + " bears a public name");
      check(method.getParameterCount() <= 7, method + " takes too much");
    }
    for (Field field : ConsentRegister.class.getDeclaredFields()) {
      check(Modifier.isPrivate(field.getModifiers()), field + " is seen");
    }
  }

  private static void nestedClasses() {
    Class<?>[] nested = ConsentRegister.class.getDeclaredClasses();
    check(nested.length <= 11, "there are over twelve classes");
    for (Class<?> type : nested) {
      check(Modifier.isStatic(type.getModifiers()), type + " is not static");
      fields(type);
      for (Method method : type.getDeclaredMethods()) {
        check(!publicNames().contains(method.getName()), method + " bears a public name");
        check(method.getParameterCount() <= 7, method + " takes too much");
      }
    }
  }

  private static void fields(Class<?> type) {
    int own = 0;
    for (Field field : type.getDeclaredFields()) {
      if (Modifier.isStatic(field.getModifiers())) {
        check(Modifier.isFinal(field.getModifiers()) && field.getType() == int.class,
            field + " is no constant");
      } else {
        own++;
      }
    }
    check(own <= 20, type + " has over twenty fields");
  }
}
