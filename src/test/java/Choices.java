import java.lang.reflect.Method;
import java.util.Random;

/** The arguments of calls by chance: mostly such as are answered, now and then odd ones. */
final class Choices {
  private static final int[] ODD_INTS = {
    Integer.MIN_VALUE, Integer.MIN_VALUE + 1, Integer.MAX_VALUE, -1, 0, 1, 61, 64, 65536, -400, 10000, -10000, 1000
  };
  private static final int[] PRIMES = {2, 3, 5, 7, 11, 13, 37, 61, 89, 97};
  /** Quotients that make a series. */
  private static final int[][] PLANS = {
    {1, 2, 11, 2}, {1, 24}, {1, 1, 23, 1}, {4, 2, 8, 2}, {2, 20, 1, -8, 4, -8}, {1, -24, 2, 24},
    {1, 1, 3, 1, 5, 1, 15, 1}, {30, 24, 30, 24, 1, 24, 1, 24, 1, 24}, {2, 24, 2, 24, 1, -24}, {6, 4}, {1, 8, 2, 8},
    {13, 2, 1, 12, 1, -14, 13, 10}, {3, 5, 3, -5}, {1, 3, 1, 3, 1, 3, 1, 3, 1, 3, 1, 3, 1, 3, 1, 3}
  };
  /** The first three belong to the first, fourth and seventh of the quotients. */
  private static final int[][] CURVES = {
    {0, -1, 1, -10, -20}, {0, 0, 0, -1, 0}, {1, 1, 1, -10, -10}, {0, 0, 0, 0, 1}, {999, -999, 999, -999, 999}
  };

  private final Random chance;
  private final PlainMill plain;
  private final boolean isWild;
  private final boolean isPlanned;
  private int[] plan = {};
  private int planned;
  private int curves;

  Choices(Random chance, PlainMill plain, boolean isWild, boolean isPlanned) {
    this.chance = chance;
    this.plain = plain;
    this.isWild = isWild;
    this.isPlanned = isPlanned;
  }

  Object[] argumentsOf(Method method) {
    boolean isOdd = isWild ? chance.nextInt(3) == 0 : chance.nextInt(25) == 0;
    return isOdd ? odd(method) : usual(method);
  }

  /** A plan goes on with what is taken of it, and ends with its series. */
  void hear(String method, Object[] arguments, String answer) {
    boolean isThrown = answer.startsWith("throws ");
    if (method.equals("factor") && !isThrown && planned < plan.length && arguments[0].equals(plan[planned])) {
      planned += 2;
    } else if (method.equals("eta") && !isThrown) {
      plan = new int[0];
      planned = 0;
    } else if (method.equals("curve") && !isThrown) {
      curves++;
    }
  }

  boolean isAmidPlan() {
    return planned > 0 && planned < plan.length;
  }

  boolean isPlanTold() {
    return planned > 0 && planned >= plan.length;
  }

  private int from(int least, int most) {
    return least + chance.nextInt(most - least + 1);
  }

  private Object[] odd(Method method) {
    Object[] arguments = usual(method);
    if (arguments.length > 0) {
      int at = chance.nextInt(arguments.length);
      if (arguments[at] instanceof Integer) {
        arguments[at] = chance.nextBoolean() ? ODD_INTS[chance.nextInt(ODD_INTS.length)] : from(-70, 130);
      } else {
        arguments[at] = (char) from(0, 255);
      }
    }
    return arguments;
  }

  private int someSeries() {
    return from(0, Math.max(0, Math.min(15, plain.series())));
  }

  /** Mostly two series of one weight, so that they can be compared. */
  private Object[] somePair(int further, int number) {
    int one = someSeries();
    int two = someSeries();
    for (int i = 0; i < 9 && one < plain.series() && two < plain.series(); i++) {
      two = plain.weight(one) == plain.weight(two) ? two : someSeries();
    }
    return further == 0 ? new Object[] {one, two} : new Object[] {one, two, number};
  }

  private int someCurve() {
    return from(0, Math.min(5, curves));
  }

  private int someDiscriminant() {
    return -4 * from(1, chance.nextBoolean() ? 15 : 100) + from(0, 1);
  }

  private Object[] usual(Method method) {
    switch (method.getName()) {
      case "index": case "cusps": case "genus": case "genusAnew": case "meanWidth": case "widthBits":
        return new Object[] {from(1, 60)};
      case "coset":
        return new Object[] {from(1, 60), from(-99, 99), from(-99, 99)};
      case "width":
        return new Object[] {from(1, 60), from(0, 8)};
      case "steps":
        return new Object[] {from(-9999, 9999), from(1, 9999)};
      case "step":
        return new Object[] {from(1, 60), from(-9999, 9999), from(1, 9999), from(0, 9)};
      case "eisenstein":
        return new Object[] {from(2, 7) * 2};
      case "factor":
        return isPlanned ? plannedFactor() : someFactor();
      case "product":
        return new Object[] {someSeries(), someSeries()};
      case "bound": case "isEqual":
        return somePair(0, 0);
      case "sum":
        return somePair(1, chance.nextBoolean() ? from(-9, 9) : chance.nextInt());
      case "raise":
        return new Object[] {someSeries(), from(1, chance.nextInt(4) == 0 ? 30 : 6)};
      case "operator":
        return new Object[] {someSeries(), from(1, chance.nextInt(4) == 0 ? 63 : 13)};
      case "coefficient":
        return new Object[] {someSeries(), from(0, 63)};
      case "isCongruent":
        return somePair(1, chance.nextBoolean() ? from(2, 9) : from(2, 9999));
      default:
        return usualBehind(method);
    }
  }

  private Object[] usualBehind(Method method) {
    switch (method.getName()) {
      case "weight": case "level": case "precision":
        return new Object[] {someSeries()};
      case "forms":
        return new Object[] {someDiscriminant()};
      case "formAt":
        return new Object[] {someDiscriminant(), from(0, 3), (char) from('a', 'c')};
      case "theta":
        return new Object[] {someDiscriminant(), from(0, 2)};
      case "weighed":
        return new Object[] {from(0, 400)};
      case "trace": case "traceAnew":
        return new Object[] {2 * from(1, 13), from(1, 20)};
      case "curve":
        return someNumbers();
      case "points": case "isGood":
        return new Object[] {someCurve(), PRIMES[chance.nextInt(PRIMES.length)]};
      case "parts":
        return new Object[] {someCurve(), someSeries()};
      default:
        return new Object[0];
    }
  }

  private Object[] someNumbers() {
    if (chance.nextBoolean()) {
      int[] known = CURVES[chance.nextInt(CURVES.length)];
      return new Object[] {known[0], known[1], known[2], known[3], known[4]};
    }
    return new Object[] {from(-3, 3), from(-9, 9), from(-3, 3), from(-99, 99), from(-999, 999)};
  }

  /** The next one of a plan; behind its last one 1 of the power 24, with which a series can still be made. */
  private Object[] plannedFactor() {
    if (plan.length == 0) {
      plan = PLANS[chance.nextInt(PLANS.length)];
      planned = 0;
    }
    return planned < plan.length ? new Object[] {plan[planned], plan[planned + 1]} : new Object[] {1, 24};
  }

  /** Small numbers and powers of 24, so that quotients are often such as can be made. */
  private Object[] someFactor() {
    int[] numbers = {1, 2, 3, 4, 6, 12, 5, 10, 24, 30};
    int power = chance.nextBoolean() ? from(-24, 24) : 24 / from(1, 3) * (chance.nextInt(3) == 0 ? -1 : 1);
    return new Object[] {numbers[chance.nextInt(numbers.length)], power};
  }
}
