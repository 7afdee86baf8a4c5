import java.lang.reflect.InvocationTargetException;
import java.lang.reflect.Method;
import java.util.ArrayList;
import java.util.Arrays;
import java.util.Comparator;
import java.util.List;
import java.util.Random;

/** Long runs of calls, chosen by chance from fixed seeds, on Heckeworks and on PlainMill: all answers are the same. */
final class RunsTest {
  private static final int RUNS = 60;
  private static final int CALLS = 440;
  private static final int[] ODD_INTS = {
    Integer.MIN_VALUE, Integer.MIN_VALUE + 1, Integer.MAX_VALUE, -1, 0, 1, 61, 64, 65536, -400, 10000, -10000, 1000
  };

  private final Random chance;
  private final Heckeworks mill = new Heckeworks();
  private final PlainMill plain = new PlainMill();
  private final Checks checks;
  private final String name;
  private final boolean isWild;

  private RunsTest(int seed, Checks checks) {
    this.chance = new Random(seed);
    this.checks = checks;
    this.name = "run " + seed;
    this.isWild = seed % 4 == 3;
  }

  public static void main(String[] args) {
    Checks checks = new Checks();
    for (int seed = 0; seed < RUNS; seed++) {
      new RunsTest(seed, checks).run();
    }
    checks.finish();
  }

  private void run() {
    List<Method> methods = new ArrayList<>(Arrays.asList(Heckeworks.class.getDeclaredMethods()));
    methods.removeIf(method -> !java.lang.reflect.Modifier.isPublic(method.getModifiers()));
    methods.sort(Comparator.comparing(Method::getName));
    List<String> told = new ArrayList<>();
    int wrong = 0;
    for (int i = 0; i < CALLS && wrong == 0; i++) {
      Method method = methods.get(chance.nextInt(methods.size()));
      Object[] arguments = isOdd(method.getName()) ? odd(method) : usual(method);
      told.add(method.getName() + Arrays.toString(arguments));
      wrong += compare(method, arguments, told) ? 0 : 1;
    }
    checks.same(name + ", the first series that is not the same", firstDifference(), -1);
  }

  private boolean isOdd(String method) {
    return isWild ? chance.nextInt(3) == 0 : chance.nextInt(25) == 0;
  }

  private boolean compare(Method method, Object[] arguments, List<String> told) {
    String got = answer(mill, method, arguments);
    String due;
    try {
      due = answer(plain, PlainMill.class.getMethod(method.getName(), method.getParameterTypes()), arguments);
    } catch (NoSuchMethodException missing) {
      throw new AssertionError(missing);
    }
    checks.same(name + " " + (got.equals(due) ? "" : String.join(" ", told)), got, due);
    return got.equals(due);
  }

  private static String answer(Object target, Method method, Object[] arguments) {
    try {
      return String.valueOf(method.invoke(target, arguments));
    } catch (InvocationTargetException thrown) {
      if (thrown.getCause() instanceof RuntimeException) {
        return "throws " + thrown.getCause().getClass().getName();
      }
      throw new AssertionError(thrown.getCause());
    } catch (IllegalAccessException hidden) {
      throw new AssertionError(hidden);
    }
  }

  /** The first series in which the two are not the same; -1 if they are in none. */
  private int firstDifference() {
    for (int i = 0; i < Math.max(mill.series(), plain.series()); i++) {
      boolean isSame = i < mill.series() && i < plain.series()
          && mill.weight(i) == plain.weight(i)
          && mill.level(i) == plain.level(i)
          && mill.precision(i) == plain.precision(i);
      for (int n = 0; isSame && n < plain.precision(i); n++) {
        isSame = mill.coefficient(i, n) == plain.coefficient(i, n);
      }
      if (!isSame) {
        return i;
      }
    }
    return -1;
  }

  private int from(int least, int most) {
    return least + chance.nextInt(most - least + 1);
  }

  private Object[] odd(Method method) {
    Object[] arguments = usual(method);
    if (arguments.length > 0) {
      int at = chance.nextInt(arguments.length);
      if (arguments[at] instanceof Integer) {
        arguments[at] = chance.nextBoolean() ? ODD_INTS[chance.nextInt(ODD_INTS.length)] : from(-70, 130);
      } else {
        arguments[at] = (char) from(0, 255);
      }
    }
    return arguments;
  }

  private int someSeries() {
    return from(0, Math.max(0, Math.min(15, plain.series())));
  }

  /** Mostly two series of one weight, so that they can be compared. */
  private Object[] somePair(int further, int number) {
    int one = someSeries();
    int two = someSeries();
    for (int i = 0; i < 9 && one < plain.series() && two < plain.series(); i++) {
      two = plain.weight(one) == plain.weight(two) ? two : someSeries();
    }
    return further == 0 ? new Object[] {one, two} : new Object[] {one, two, number};
  }

  private int someDiscriminant() {
    return -4 * from(1, chance.nextBoolean() ? 15 : 100) + from(0, 1);
  }

  private int somePrime() {
    int[] primes = {2, 3, 5, 7, 11, 13, 37, 61, 89, 97};
    return primes[chance.nextInt(primes.length)];
  }

  private Object[] usual(Method method) {
    switch (method.getName()) {
      case "index": case "cusps": case "genus": case "genusAnew": case "meanWidth": case "widthBits":
        return new Object[] {from(1, 60)};
      case "coset":
        return new Object[] {from(1, 60), from(-99, 99), from(-99, 99)};
      case "width":
        return new Object[] {from(1, 60), from(0, 8)};
      case "steps":
        return new Object[] {from(-9999, 9999), from(1, 9999)};
      case "step":
        return new Object[] {from(1, 60), from(-9999, 9999), from(1, 9999), from(0, 9)};
      case "eisenstein":
        return new Object[] {from(2, 7) * 2};
      case "factor":
        return someFactor();
      case "product":
        return new Object[] {someSeries(), someSeries()};
      case "bound": case "isEqual":
        return somePair(0, 0);
      case "sum":
        return somePair(1, chance.nextBoolean() ? from(-9, 9) : chance.nextInt());
      case "raise":
        return new Object[] {someSeries(), from(1, 6)};
      case "operator":
        return new Object[] {someSeries(), from(1, 13)};
      case "coefficient":
        return new Object[] {someSeries(), from(0, 63)};
      case "isCongruent":
        return somePair(1, chance.nextBoolean() ? from(2, 9) : from(2, 9999));
      default:
        return usualBehind(method);
    }
  }

  private Object[] usualBehind(Method method) {
    switch (method.getName()) {
      case "weight": case "level": case "precision":
        return new Object[] {someSeries()};
      case "forms":
        return new Object[] {someDiscriminant()};
      case "formAt":
        return new Object[] {someDiscriminant(), from(0, 3), (char) from('a', 'c')};
      case "theta":
        return new Object[] {someDiscriminant(), from(0, 2)};
      case "weighed":
        return new Object[] {from(0, 400)};
      case "trace": case "traceAnew":
        return new Object[] {2 * from(1, 13), from(1, 20)};
      case "curve":
        return new Object[] {from(-3, 3), from(-9, 9), from(-3, 3), from(-99, 99), from(-999, 999)};
      case "points": case "isGood":
        return new Object[] {from(0, 5), somePrime()};
      case "parts":
        return new Object[] {from(0, 5), someSeries()};
      default:
        return new Object[0];
    }
  }

  /** Small numbers and powers of 24, so that quotients are often such as can be made. */
  private Object[] someFactor() {
    int[] numbers = {1, 2, 3, 4, 6, 12, 5, 10, 24, 30};
    int power = chance.nextBoolean() ? from(-24, 24) : 24 / from(1, 3) * (chance.nextInt(3) == 0 ? -1 : 1);
    return new Object[] {numbers[chance.nextInt(numbers.length)], power};
  }
}
