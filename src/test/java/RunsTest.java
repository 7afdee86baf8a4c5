import java.lang.reflect.InvocationTargetException;
import java.lang.reflect.Method;
import java.lang.reflect.Modifier;
import java.util.ArrayList;
import java.util.Arrays;
import java.util.Collections;
import java.util.Comparator;
import java.util.HashMap;
import java.util.HashSet;
import java.util.List;
import java.util.Map;
import java.util.Random;
import java.util.Set;

/**
 * Runs of 512 calls of all methods on one object, chosen by chance from fixed seeds: every answer is that of PlainMill.
 * At the end it is told whether all methods have answered, and thrown each exception that they name.
 */
final class RunsTest {
  private static final int RUNS = 96;
  private static final int CALLS = 512;
  private static final Set<String> MAKERS =
      Set.of("eisenstein", "discriminant", "eta", "product", "sum", "raise", "operator", "theta", "curve");
  private static final Checks checks = new Checks();
  private static final List<Method> METHODS = methods();
  /** How often a method has answered so, by its name and the answer, or what kind of answer it is. */
  private static final Map<String, Integer> SEEN = new HashMap<>();

  private final Random chance;
  private final Choices choices;
  private final Heckeworks mill = new Heckeworks();
  private final PlainMill plain = new PlainMill();
  private final List<String> told = new ArrayList<>();
  private final Set<String> called = new HashSet<>();
  private final String name;
  private final boolean isSlow;
  private final boolean isWatchful;

  private RunsTest(int seed) {
    chance = new Random(seed);
    choices = new Choices(chance, plain, seed % 4 == 3, seed % 2 == 0);
    name = "run " + seed;
    isSlow = seed % 3 == 1;
    isWatchful = seed % 3 == 2;
  }

  public static void main(String[] args) {
    for (int seed = 0; seed < RUNS; seed++) {
      new RunsTest(seed).run();
    }
    coverage();
    checks.finish();
  }

  private static List<Method> methods() {
    List<Method> found = new ArrayList<>(Arrays.asList(Heckeworks.class.getDeclaredMethods()));
    found.removeIf(method -> !Modifier.isPublic(method.getModifiers()));
    found.sort(Comparator.comparing(Method::getName));
    return found;
  }

  private static Method method(String name) {
    for (Method method : METHODS) {
      if (method.getName().equals(name)) {
        return method;
      }
    }
    throw new AssertionError(name);
  }

  /** In rounds of all methods, each time in another order, so that every run calls each of them. */
  private void run() {
    boolean isRight = true;
    for (int round = 0; told.size() < CALLS && isRight; round++) {
      List<Method> order = new ArrayList<>(METHODS);
      Collections.shuffle(order, chance);
      boolean isWithoutMakers = isSlow && round % 4 != 1;
      for (int i = 0; i < order.size() && told.size() < CALLS && isRight; i++) {
        Method method = order.get(i);
        boolean isMaker = MAKERS.contains(method.getName());
        if (!isMaker || !isWithoutMakers) {
          isRight = isMaker && isWatchful ? makeAndWatch(method) : call(method);
        }
        isRight = isRight && (!method.getName().equals("factor") || endPlan());
      }
    }
    checks.same(name + ", its calls", told.size(), CALLS);
    checks.same(name + ", the methods that are called", called.size(), METHODS.size());
  }

  /** The other factors of a planned quotient, and mostly its series. */
  private boolean endPlan() {
    boolean isRight = true;
    // An odd factor amid them may be in the way of the others.
    for (int i = 0; i < 8 && choices.isAmidPlan() && told.size() < CALLS && isRight; i++) {
      isRight = call(method("factor"));
    }
    boolean isToBeMade = choices.isPlanTold() && told.size() < CALLS && chance.nextInt(3) != 0;
    return isRight && (!isToBeMade || call(method("eta")));
  }

  private boolean call(Method method) {
    Object[] arguments = choices.argumentsOf(method);
    return call(method, arguments);
  }

  /** Beside the call itself, what a new series is told to be; a watchful run has 16 soon. */
  private boolean makeAndWatch(Method method) {
    int before = plain.series();
    boolean isRight = call(method);
    if (plain.series() == before || told.size() > CALLS - 30) {
      return isRight;
    }
    isRight &= call(method("weight"), before) && call(method("level"), before) && call(method("precision"), before);
    int precision = plain.precision(before);
    for (int i = 0; i < 12; i++) {
      isRight &= call(method("coefficient"), before, chance.nextInt(precision));
    }
    isRight &= call(method("coefficient"), before, precision - 1) && call(method("coefficient"), before, precision);
    return isRight && call(method("allCoefficients"));
  }

  private boolean call(Method method, Object... arguments) {
    told.add(method.getName() + Arrays.toString(arguments));
    called.add(method.getName());
    String got = answer(mill, method, arguments);
    String due = answer(plain, onPlain(method), arguments);
    boolean isSame = got.equals(due);
    checks.same(name + " " + (isSame ? "" : String.join(" ", told)), got, due);
    choices.hear(method.getName(), arguments, due);
    SEEN.merge(method.getName() + " " + kindOf(method, due), 1, Integer::sum);
    return isSame;
  }

  private static String kindOf(Method method, String answer) {
    boolean isKind = answer.startsWith("throws ") || method.getReturnType() == boolean.class;
    boolean isNone = method.getName().equals("parts") && answer.equals("0");
    return isKind ? answer : isNone ? "none" : "answers";
  }

  private static Method onPlain(Method method) {
    try {
      return PlainMill.class.getMethod(method.getName(), method.getParameterTypes());
    } catch (NoSuchMethodException missing) {
      throw new AssertionError(missing);
    }
  }

  private static String answer(Object target, Method method, Object[] arguments) {
    try {
      return String.valueOf(method.invoke(target, arguments));
    } catch (InvocationTargetException thrown) {
      if (thrown.getCause() instanceof RuntimeException) {
        return "throws " + thrown.getCause().getClass().getName();
      }
      throw new AssertionError(thrown.getCause());
    } catch (IllegalAccessException hidden) {
      throw new AssertionError(hidden);
    }
  }

  /** What of all that the face names the runs have seen; isSound is never false. */
  private static void coverage() {
    for (Method method : METHODS) {
      if (method.getReturnType() == boolean.class) {
        seen(method, "true");
        if (!method.getName().equals("isSound")) {
          seen(method, "false");
        }
      } else {
        seen(method, "answers");
      }
      for (Class<?> type : method.getExceptionTypes()) {
        seen(method, "throws " + type.getName());
      }
    }
    seen(method("parts"), "none");
  }

  private static void seen(Method method, String answer) {
    int times = SEEN.getOrDefault(method.getName() + " " + answer, 0);
    checks.same("the runs have seen: " + method.getName() + " " + answer, times > 0, true);
    if (System.getProperty("tell") != null) {
      System.out.println(method.getName() + " " + answer + ": " + times);
    }
  }
}
