import java.util.Arrays;
import java.util.function.Supplier;

/** Mills to begin with, and all that a mill shows, as a text. */
final class Mills {
  static final int[] PRIMES = {
    2, 3, 5, 7, 11, 13, 17, 19, 23, 29, 31, 37, 41, 43, 47, 53, 59, 61, 67, 71, 73, 79, 83, 89, 97
  };

  // The numbers of the series of some() and of full().
  static final int FOUR = 0;
  static final int SIX = 1;
  static final int FOUR_AT_2 = 2;
  static final int THETA_7 = 3;
  static final int THETA_11 = 4;
  static final int WEIGHT_0 = 5;
  static final int TWELVE = 6;
  static final int SIXTY = 9;
  static final int TOLD_2 = 10;
  static final int TOLD_1 = 11;
  static final int FOUR_AT_30 = 12;
  static final int SOME = 13;

  private Mills() {}

  static Heckeworks empty() {
    return new Heckeworks();
  }

  static void tell(Heckeworks mill, int... factors) {
    for (int i = 0; i + 1 < factors.length; i += 2) {
      mill.factor(factors[i], factors[i + 1]);
    }
  }

  static Heckeworks told(int... factors) {
    Heckeworks mill = new Heckeworks();
    tell(mill, factors);
    return mill;
  }

  /** 13 series of many weights, levels and precisions, 2 curves, and 2 factors that make a series. */
  static Heckeworks some() {
    Heckeworks mill = new Heckeworks();
    mill.eisenstein(4);
    mill.eisenstein(6);
    mill.raise(FOUR, 2);
    mill.theta(-7, 0);
    mill.theta(-11, 0);
    tell(mill, 1, -24, 2, 24);
    mill.eta();
    mill.discriminant();
    mill.product(TWELVE, TWELVE);
    mill.product(TWELVE + 1, TWELVE + 1);
    mill.product(TWELVE + 2, TWELVE);
    mill.operator(TWELVE, 63);
    mill.operator(TOLD_2, 2);
    mill.raise(FOUR, 30);
    mill.curve(0, -1, 1, -10, -20);
    mill.curve(0, 0, 0, -1, 0);
    tell(mill, 1, 2, 11, 2);
    return mill;
  }

  /** The same with 16 series, 6 curves, and 8 factors that would make a series. */
  static Heckeworks full() {
    Heckeworks mill = some();
    for (int i = SOME; i < 16; i++) {
      mill.discriminant();
    }
    for (int i = 2; i < 6; i++) {
      mill.curve(0, 0, 0, 0, i);
    }
    tell(mill, 11, 1, 11, -1, 1, 5, 1, -5, 1, 24, 1, -24);
    return mill;
  }

  static long[] row(Heckeworks mill, int series) {
    long[] found = new long[mill.precision(series)];
    for (int i = 0; i < found.length; i++) {
      found[i] = mill.coefficient(series, i);
    }
    return found;
  }

  /**
   * All that calls tell which change nothing, of a mill that can be made again: each part of it is asked of a new one,
   * since a mill answers 512 calls alone.
   */
  static String shown(Supplier<Heckeworks> begin) {
    StringBuilder text = new StringBuilder();
    for (int part = 0; part < 7; part++) {
      showPart(text, begin.get(), part);
    }
    return text.toString();
  }

  /** All that is shown, what further calls answer that do change something, and what is shown then. */
  static String shownLater(Supplier<Heckeworks> begin) {
    return shown(begin) + goFurther(begin.get()) + shown(() -> {
      Heckeworks mill = begin.get();
      goFurther(mill);
      return mill;
    });
  }

  private static String goFurther(Heckeworks mill) {
    StringBuilder text = new StringBuilder();
    add(text, Checks.outcome(mill::eta), Checks.outcome(() -> mill.factor(1, 24)), mill.isWhole(),
        Checks.outcome(mill::eta), Checks.outcome(() -> mill.curve(1, 0, 1, 4, -6)), mill.index(11), mill.genus(30),
        mill.forms(-23), Checks.outcome(() -> mill.theta(-23, 1)), Checks.outcome(() -> mill.product(0, 0)),
        Checks.outcome(mill::discriminant));
    return text.toString();
  }

  private static void showPart(StringBuilder text, Heckeworks mill, int part) {
    int count = mill.series();
    if (part == 6) {
      addCurves(text, mill, count);
    } else if (part >= 4) {
      addPairs(text, mill, count, 8 * (part - 4));
    } else {
      addSeries(text, mill, count, 4 * part);
    }
  }

  private static void add(StringBuilder text, Object... answers) {
    for (Object answer : answers) {
      text.append(answer).append(' ');
    }
  }

  private static void addSeries(StringBuilder text, Heckeworks mill, int count, int from) {
    add(text, count, mill.allCoefficients(), mill.toldBits(), mill.isWhole(), mill.isSound(),
        Checks.outcome(mill::toldShare));
    for (int i = from; i < Math.min(from + 4, count); i++) {
      add(text, mill.weight(i), mill.level(i), Arrays.toString(row(mill, i)));
    }
  }

  private static void addPairs(StringBuilder text, Heckeworks mill, int count, int from) {
    for (int i = from; i < Math.min(from + 8, count); i++) {
      for (int j = 0; j < count; j++) {
        int one = i;
        int other = j;
        add(text, Checks.outcome(() -> mill.bound(one, other)), Checks.outcome(() -> mill.isEqual(one, other)),
            Checks.outcome(() -> mill.isCongruent(one, other, 5)));
      }
    }
  }

  private static void addCurves(StringBuilder text, Heckeworks mill, int count) {
    for (int i = 0; i < 6; i++) {
      int curve = i;
      for (int p : PRIMES) {
        add(text, Checks.outcome(() -> mill.points(curve, p)), Checks.outcome(() -> mill.isGood(curve, p)));
      }
      for (int j = 0; j < count; j++) {
        int series = j;
        add(text, Checks.outcome(() -> mill.parts(curve, series)));
      }
    }
  }
}
