import java.util.function.Function;
import java.util.function.Supplier;

/**
 * Each exception of each method, also where several apply at once: the one that is listed first is thrown, and all that
 * later calls show is what it is on a mill that has not seen the refused call.
 */
final class RefusalsTest {
  private static final int MIN = Integer.MIN_VALUE;
  private static final int MAX = Integer.MAX_VALUE;

  private static final Checks checks = new Checks();

  public static void main(String[] args) {
    groups();
    symbols();
    makers();
    factors();
    etas();
    products();
    sums();
    raises();
    operators();
    readers();
    bounds();
    congruences();
    forms();
    thetas();
    counts();
    curves();
    points();
    checks.finish();
  }

  private static void refused(String what, Supplier<Heckeworks> begin, Class<? extends RuntimeException> due,
      Function<Heckeworks, Object> call) {
    Heckeworks mill = begin.get();
    checks.refuses(what, due, () -> call.apply(mill));
    checks.refuses(what + ", once more", due, () -> call.apply(mill));
    checks.same(what + " changes nothing", Mills.shownLater(() -> refusing(begin, call)), Mills.shownLater(begin));
  }

  private static Heckeworks refusing(Supplier<Heckeworks> begin, Function<Heckeworks, Object> call) {
    Heckeworks mill = begin.get();
    Checks.outcome(() -> call.apply(mill));
    Checks.outcome(() -> call.apply(mill));
    return mill;
  }

  private static void argument(String what, Supplier<Heckeworks> begin, Function<Heckeworks, Object> call) {
    refused(what, begin, Checks.ARGUMENT, call);
  }

  private static void outside(String what, Supplier<Heckeworks> begin, Function<Heckeworks, Object> call) {
    refused(what, begin, Checks.BOUNDS, call);
  }

  private static void unsupported(String what, Supplier<Heckeworks> begin, Function<Heckeworks, Object> call) {
    refused(what, begin, Checks.UNSUPPORTED, call);
  }

  private static void state(String what, Supplier<Heckeworks> begin, Function<Heckeworks, Object> call) {
    refused(what, begin, Checks.STATE, call);
  }

  private static void groups() {
    for (int level : new int[] {0, 61, -1, MIN, MAX}) {
      argument("promise 2: the level " + level, Mills::some, mill -> mill.index(level));
      argument("promise 3: the level " + level, Mills::some, mill -> mill.coset(level, 0, 1));
      argument("promise 3: the level " + level + " before the pair", Mills::some, mill -> mill.coset(level, 0, 0));
      argument("promise 3: the level " + level + " before a pair of it", Mills::some,
          mill -> mill.coset(level, level, level));
      argument("promise 4: the level " + level, Mills::some, mill -> mill.cusps(level));
      argument("promise 5: the level " + level, Mills::some, mill -> mill.width(level, 0));
      argument("promise 5: the level " + level + " before the cusp", Mills::some, mill -> mill.width(level, -1));
      argument("promise 6: the level " + level, Mills::some, mill -> mill.genus(level));
      argument("promise 7: the level " + level, Mills::some, mill -> mill.genusAnew(level));
      argument("promise 39: the level " + level, Mills::some, mill -> mill.meanWidth(level));
      argument("promise 40: the level " + level, Mills::some, mill -> mill.widthBits(level));
    }
    unsupported("promise 3: no pair", Mills::some, mill -> mill.coset(60, 15, 45));
    unsupported("promise 3: no pair of 2", Mills::some, mill -> mill.coset(2, 0, 0));
    for (int cusp : new int[] {-1, 12, MIN, MAX}) {
      outside("promise 5: the cusp " + cusp, Mills::some, mill -> mill.width(60, cusp));
    }
  }

  private static void symbols() {
    int[][] wrong = {{10000, 1}, {-10000, 1}, {1, 0}, {1, 10000}, {MIN, 1}, {MAX, 1}, {1, MIN}, {1, MAX}, {0, 0}};
    for (int[] pair : wrong) {
      String name = pair[0] + " / " + pair[1];
      argument("promise 8: " + name, Mills::some, mill -> mill.steps(pair[0], pair[1]));
      argument("promise 9: " + name, Mills::some, mill -> mill.step(7, pair[0], pair[1], 0));
      argument("promise 9: " + name + " before the step", Mills::some, mill -> mill.step(7, pair[0], pair[1], -1));
      argument("promise 9: " + name + " and the level", Mills::some, mill -> mill.step(0, pair[0], pair[1], 99));
    }
    for (int level : new int[] {0, 61, MIN, MAX}) {
      argument("promise 9: the level " + level, Mills::some, mill -> mill.step(level, 1, 2, 0));
      argument("promise 9: the level " + level + " before the step", Mills::some, mill -> mill.step(level, 1, 2, 2));
    }
    for (int step : new int[] {-1, 3, MIN, MAX}) {
      outside("promise 9: the step " + step, Mills::some, mill -> mill.step(7, 355, 113, step));
    }
  }

  private static void makers() {
    for (int weight : new int[] {0, 2, 3, 5, 7, 9, 11, 12, 13, 15, 16, -4, MIN, MAX}) {
      argument("promise 10: the weight " + weight, Mills::some, mill -> mill.eisenstein(weight));
      argument("promise 10: the weight " + weight + " before the 17th", Mills::full, mill -> mill.eisenstein(weight));
    }
    state("promise 10: a 17th series", Mills::full, mill -> mill.eisenstein(14));
    state("promise 11: a 17th series", Mills::full, Heckeworks::discriminant);
  }

  private static void factors() {
    int[][] wrong = {{0, 1}, {31, 1}, {-1, 1}, {1, 0}, {1, 25}, {1, -25}, {MIN, 1}, {MAX, 1}, {1, MIN}, {1, MAX}};
    for (int[] pair : wrong) {
      String name = "promise 12: the factor " + pair[0] + ", " + pair[1];
      argument(name, Mills::some, mill -> mill.factor(pair[0], pair[1]));
      argument(name + " before a 9th one", Mills::full, mill -> mill.factor(pair[0], pair[1]));
    }
    // 11 is told already in both mills.
    for (int power : new int[] {0, 25, -25}) {
      argument("promise 12: the power " + power + " before the level", Mills::some, mill -> mill.factor(7, power));
      argument("promise 12: the power " + power + " before the level and a 9th one", Mills::full,
          mill -> mill.factor(7, power));
    }
    argument("promise 12: the number 31 before its level", Mills::some, mill -> mill.factor(31, 1));
    unsupported("promise 12: the level 66", Mills::some, mill -> mill.factor(6, 1));
    unsupported("promise 12: the level 77", Mills::some, mill -> mill.factor(7, 1));
    unsupported("promise 12: the level before a 9th one", Mills::full, mill -> mill.factor(6, 1));
    state("promise 12: a 9th one", Mills::full, mill -> mill.factor(1, 1));
    state("promise 12: a 9th one, and no series", RefusalsTest::eightFactors, mill -> mill.factor(1, 1));
    unsupported("promise 12: the level before a 9th one, and no series", RefusalsTest::eightFactors,
        mill -> mill.factor(7, 1));
    state("promise 12: a 9th one of a level that would do", Mills::full, mill -> mill.factor(5, -24));
  }

  private static Heckeworks eightFactors() {
    return Mills.told(1, 4, 1, -2, 2, 4, 2, 2, 5, 4, 5, -2, 10, 2, 10, -2);
  }

  private static void etas() {
    unsupported("promise 14: no factors", Mills::empty, Heckeworks::eta);
    int[][] wrong = {
      // The weight is a half.
      {1, 24, 24, 1}, {24, 1},
      // The weight is -1 and the quotient begins at 0, -4 and 1, -1 and nowhere whole.
      {24, 2, 12, -4}, {24, 4, 8, -6, 4, -6, 1, 24, 1, -24}, {24, 1, 12, -3},
      // It begins nowhere whole, just above 0 and below, and just behind 1.
      {1, 2}, {1, 22}, {1, 24, 2, 2}, {1, -24, 1, 22}, {2, -1, 1, 1}, {24, -1, 1, 1},
      // It begins at -1, -2 and -29.
      {24, -2, 1, 24}, {1, 24, 24, -4, 1, 24}, {30, -24, 1, 24},
      // The weight is 61, 96 and 48, and it begins at 7, 8 and 64.
      {1, 24, 1, 24, 1, 24, 1, 24, 1, 24, 24, 2}, {1, 24, 1, 24, 1, 24, 1, 24, 1, 24, 1, 24, 1, 24, 1, 24},
      {30, 24, 30, 24, 2, 24, 2, 24}
    };
    for (int[] factors : wrong) {
      String name = "promise 14: " + java.util.Arrays.toString(factors);
      unsupported(name, () -> Mills.told(factors), Heckeworks::eta);
      unsupported(name + " before the 17th", () -> filledAnd(factors), Heckeworks::eta);
    }
    unsupported("promise 14: no factors before the 17th", () -> filledAnd(), Heckeworks::eta);
    state("promise 14: a 17th series", Mills::full, Heckeworks::eta);
    state("promise 14: a 17th series of two factors", () -> filledAnd(1, 2, 11, 2), Heckeworks::eta);
    refusedFactorsStay();
  }

  private static Heckeworks filledAnd(int... factors) {
    Heckeworks mill = Mills.told(factors);
    for (int i = 0; i < 16; i++) {
      mill.discriminant();
    }
    return mill;
  }

  /** What a refused quotient lacks is told then, and makes the very series that all factors at once make. */
  private static void refusedFactorsStay() {
    Heckeworks mill = Mills.told(1, 23);
    checks.refuses("promise 14: one lacks", Checks.UNSUPPORTED, mill::eta);
    checks.refuses("promise 14: one lacks still", Checks.UNSUPPORTED, mill::eta);
    checks.answers("promise 14: it is told", 2, () -> mill.factor(1, 1));
    checks.answers("promise 14: and made", 0, mill::eta);
    mill.discriminant();
    checks.row("promise 14: it is Discriminant's", Mills.row(mill, 0), Mills.row(mill, 1));
    checks.refuses("promise 14: no factors again", Checks.UNSUPPORTED, mill::eta);
    checks.answers("promise 14: two series", 2, mill::series);
  }

  private static void products() {
    for (int series : new int[] {-1, Mills.SOME, 16, MIN, MAX}) {
      outside("promise 15: no first " + series, Mills::some, mill -> mill.product(series, 0));
      outside("promise 15: no second " + series, Mills::some, mill -> mill.product(0, series));
      outside("promise 15: neither " + series, Mills::some, mill -> mill.product(series, series));
    }
    outside("promise 15: no first before the 17th", Mills::full, mill -> mill.product(16, 0));
    outside("promise 15: no second before the 17th", Mills::full, mill -> mill.product(0, -1));
    outside("promise 15: no second before the weight", Mills::full, mill -> mill.product(Mills.SIXTY, 16));
    unsupported("promise 15: the weight 61", Mills::some, mill -> mill.product(Mills.SIXTY, Mills.THETA_7));
    unsupported("promise 15: the weight 61, turned", Mills::some, mill -> mill.product(Mills.THETA_7, Mills.SIXTY));
    unsupported("promise 15: the weight 120", Mills::some, mill -> mill.product(Mills.SIXTY, Mills.SIXTY));
    unsupported("promise 15: the level 77", Mills::some, mill -> mill.product(Mills.THETA_7, Mills.THETA_11));
    unsupported("promise 15: the level 210", Mills::some, mill -> mill.product(Mills.FOUR_AT_30, Mills.THETA_7));
    unsupported("promise 15: the weight before the 17th", Mills::full,
        mill -> mill.product(Mills.SIXTY, Mills.FOUR));
    unsupported("promise 15: the level before the 17th", Mills::full,
        mill -> mill.product(Mills.THETA_11, Mills.THETA_7));
    state("promise 15: a 17th series", Mills::full, mill -> mill.product(Mills.FOUR, Mills.SIX));
    state("promise 15: a 17th series of one", Mills::full, mill -> mill.product(Mills.TOLD_1, Mills.TOLD_1));
  }

  private static void sums() {
    for (int series : new int[] {-1, Mills.SOME, 16, MIN, MAX}) {
      outside("promise 16: no first " + series, Mills::some, mill -> mill.sum(series, 0, 1));
      outside("promise 16: no second " + series, Mills::some, mill -> mill.sum(0, series, 1));
      outside("promise 16: neither " + series, Mills::some, mill -> mill.sum(series, series, 0));
    }
    outside("promise 16: no first before the 17th", Mills::full, mill -> mill.sum(16, 0, 1));
    outside("promise 16: no second before the 17th", Mills::full, mill -> mill.sum(0, -1, 1));
    unsupported("promise 16: other weights", Mills::some, mill -> mill.sum(Mills.FOUR, Mills.SIX, 1));
    unsupported("promise 16: other weights, no times", Mills::some, mill -> mill.sum(Mills.SIX, Mills.FOUR, 0));
    unsupported("promise 16: the level 77", Mills::some, mill -> mill.sum(Mills.THETA_7, Mills.THETA_11, 1));
    unsupported("promise 16: both", Mills::some, mill -> mill.sum(Mills.FOUR_AT_30, Mills.THETA_7, 1));
    unsupported("promise 16: other weights before the 17th", Mills::full, mill -> mill.sum(0, 1, 1));
    unsupported("promise 16: the level before the 17th", Mills::full,
        mill -> mill.sum(Mills.THETA_11, Mills.THETA_7, MAX));
    state("promise 16: a 17th series", Mills::full, mill -> mill.sum(Mills.FOUR, Mills.FOUR_AT_2, MIN));
    state("promise 16: a 17th series of one", Mills::full, mill -> mill.sum(Mills.FOUR, Mills.FOUR, 0));
  }

  private static void raises() {
    for (int series : new int[] {-1, Mills.SOME, 16, MIN, MAX}) {
      outside("promise 17: no " + series, Mills::some, mill -> mill.raise(series, 2));
      outside("promise 17: no " + series + " before 0", Mills::some, mill -> mill.raise(series, 0));
      outside("promise 17: no " + series + " before 31", Mills::some, mill -> mill.raise(series, 31));
    }
    outside("promise 17: no series before the 17th", Mills::full, mill -> mill.raise(16, 2));
    outside("promise 17: no series before all", Mills::full, mill -> mill.raise(-1, 31));
    for (int d : new int[] {0, 31, -1, MIN, MAX}) {
      argument("promise 17: the number " + d, Mills::some, mill -> mill.raise(Mills.FOUR, d));
      argument("promise 17: the number " + d + " before the level", Mills::some,
          mill -> mill.raise(Mills.FOUR_AT_30, d));
      argument("promise 17: the number " + d + " before the 17th", Mills::full, mill -> mill.raise(Mills.FOUR, d));
      argument("promise 17: the number " + d + " before both", Mills::full, mill -> mill.raise(Mills.FOUR_AT_30, d));
    }
    unsupported("promise 17: the level 90", Mills::some, mill -> mill.raise(Mills.FOUR_AT_30, 3));
    unsupported("promise 17: the level 63", Mills::some, mill -> mill.raise(Mills.THETA_7, 9));
    unsupported("promise 17: the level 66", Mills::some, mill -> mill.raise(Mills.THETA_11, 6));
    unsupported("promise 17: the level before the 17th", Mills::full, mill -> mill.raise(Mills.THETA_7, 9));
    state("promise 17: a 17th series", Mills::full, mill -> mill.raise(Mills.THETA_7, 8));
    state("promise 17: a 17th series, by 1", Mills::full, mill -> mill.raise(Mills.TOLD_1, 1));
  }

  private static void operators() {
    for (int series : new int[] {-1, Mills.SOME, 16, MIN, MAX}) {
      outside("promise 18: no " + series, Mills::some, mill -> mill.operator(series, 2));
      outside("promise 18: no " + series + " before 0", Mills::some, mill -> mill.operator(series, 0));
      outside("promise 18: no " + series + " before 64", Mills::some, mill -> mill.operator(series, 64));
    }
    outside("promise 18: no series before the 17th", Mills::full, mill -> mill.operator(16, 2));
    outside("promise 18: no series before all", Mills::full, mill -> mill.operator(-1, 64));
    for (int n : new int[] {0, 64, -1, MIN, MAX}) {
      argument("promise 18: " + n, Mills::some, mill -> mill.operator(Mills.FOUR, n));
      argument("promise 18: " + n + " before the level", Mills::some, mill -> mill.operator(Mills.FOUR_AT_2, n));
      argument("promise 18: " + n + " before the weight", Mills::some, mill -> mill.operator(Mills.WEIGHT_0, n));
      argument("promise 18: " + n + " before the 17th", Mills::full, mill -> mill.operator(Mills.FOUR, n));
      argument("promise 18: " + n + " before all", Mills::full, mill -> mill.operator(Mills.WEIGHT_0, n));
    }
    for (int n : new int[] {7, 14, 63}) {
      unsupported("promise 18: " + n + " and 7", Mills::some, mill -> mill.operator(Mills.THETA_7, n));
      unsupported("promise 18: " + n + " and 7 before the 17th", Mills::full,
          mill -> mill.operator(Mills.THETA_7, n));
    }
    unsupported("promise 18: 35 and 30", Mills::some, mill -> mill.operator(Mills.FOUR_AT_30, 35));
    unsupported("promise 18: the weight 0 and 1", Mills::some, mill -> mill.operator(Mills.WEIGHT_0, 1));
    unsupported("promise 18: the weight 0 and 3", Mills::some, mill -> mill.operator(Mills.WEIGHT_0, 3));
    unsupported("promise 18: the weight 0 and 2", Mills::some, mill -> mill.operator(Mills.WEIGHT_0, 2));
    unsupported("promise 18: the weight 0 before the 17th", Mills::full, mill -> mill.operator(Mills.WEIGHT_0, 3));
    state("promise 18: a 17th series", Mills::full, mill -> mill.operator(Mills.FOUR, 63));
    state("promise 18: a 17th series, by 1", Mills::full, mill -> mill.operator(Mills.FOUR_AT_30, 1));
  }

  private static void readers() {
    for (int series : new int[] {-1, Mills.SOME, 16, MIN, MAX}) {
      outside("promise 19: no " + series, Mills::some, mill -> mill.weight(series));
      outside("promise 20: no " + series, Mills::some, mill -> mill.level(series));
      outside("promise 21: no " + series, Mills::some, mill -> mill.precision(series));
      outside("promise 22: no " + series, Mills::some, mill -> mill.coefficient(series, 0));
      outside("promise 22: no " + series + " before -1", Mills::some, mill -> mill.coefficient(series, -1));
      outside("promise 22: no " + series + " before 64", Mills::some, mill -> mill.coefficient(series, 64));
    }
    for (int n : new int[] {-1, 64, MIN, MAX}) {
      refused("promise 22: at " + n, Mills::some, Checks.MISSING, mill -> mill.coefficient(Mills.FOUR, n));
    }
    refused("promise 22: at 2 of 2", Mills::some, Checks.MISSING, mill -> mill.coefficient(Mills.TOLD_2, 2));
    refused("promise 22: at 1 of 1", Mills::some, Checks.MISSING, mill -> mill.coefficient(Mills.TOLD_1, 1));
  }

  private static void bounds() {
    for (int series : new int[] {-1, Mills.SOME, 16, MIN, MAX}) {
      outside("promise 23: no first " + series, Mills::some, mill -> mill.bound(series, 0));
      outside("promise 23: no second " + series, Mills::some, mill -> mill.bound(0, series));
      outside("promise 24: no first " + series, Mills::some, mill -> mill.isEqual(series, 0));
      outside("promise 24: no second " + series, Mills::some, mill -> mill.isEqual(Mills.TOLD_1, series));
      outside("promise 24: neither " + series, Mills::some, mill -> mill.isEqual(series, series));
    }
    unsupported("promise 23: other weights", Mills::some, mill -> mill.bound(Mills.FOUR, Mills.SIX));
    unsupported("promise 23: the level 77", Mills::some, mill -> mill.bound(Mills.THETA_7, Mills.THETA_11));
    unsupported("promise 24: other weights", Mills::some, mill -> mill.isEqual(Mills.SIX, Mills.FOUR));
    unsupported("promise 24: the level 77", Mills::some, mill -> mill.isEqual(Mills.THETA_7, Mills.THETA_11));
    unsupported("promise 24: the first is not told", Mills::some, mill -> mill.isEqual(Mills.TOLD_1, Mills.TWELVE));
    unsupported("promise 24: the second is not told", Mills::some, mill -> mill.isEqual(Mills.TWELVE, Mills.TOLD_1));
    unsupported("promise 24: neither is told", Mills::some, mill -> mill.isEqual(Mills.TOLD_1, Mills.TOLD_1));
  }

  private static void congruences() {
    for (int series : new int[] {-1, Mills.SOME, 16, MIN, MAX}) {
      outside("promise 25: no first " + series, Mills::some, mill -> mill.isCongruent(series, 0, 5));
      outside("promise 25: no second " + series, Mills::some, mill -> mill.isCongruent(0, series, 5));
      outside("promise 25: no first " + series + " before 1", Mills::some, mill -> mill.isCongruent(series, 0, 1));
      outside("promise 25: no second " + series + " before 10000", Mills::some,
          mill -> mill.isCongruent(Mills.TOLD_1, series, 10000));
    }
    for (int m : new int[] {1, 10000, 0, -1, -2, MIN, MAX}) {
      argument("promise 25: modulo " + m, Mills::some, mill -> mill.isCongruent(Mills.FOUR, Mills.FOUR, m));
      argument("promise 25: modulo " + m + " before the weights", Mills::some,
          mill -> mill.isCongruent(Mills.FOUR, Mills.SIX, m));
      argument("promise 25: modulo " + m + " before the level", Mills::some,
          mill -> mill.isCongruent(Mills.THETA_7, Mills.THETA_11, m));
      argument("promise 25: modulo " + m + " before what is told", Mills::some,
          mill -> mill.isCongruent(Mills.TOLD_1, Mills.TWELVE, m));
    }
    for (int m : new int[] {2, 9999}) {
      unsupported("promise 25: other weights", Mills::some, mill -> mill.isCongruent(Mills.FOUR, Mills.SIX, m));
      unsupported("promise 25: the level 77", Mills::some,
          mill -> mill.isCongruent(Mills.THETA_7, Mills.THETA_11, m));
      unsupported("promise 25: the first is not told", Mills::some,
          mill -> mill.isCongruent(Mills.TOLD_1, Mills.TWELVE, m));
      unsupported("promise 25: the second is not told", Mills::some,
          mill -> mill.isCongruent(Mills.TWELVE, Mills.TOLD_1, m));
    }
  }

  private static void forms() {
    for (int discriminant : new int[] {-401, -402, -2, -1, 0, 1, -5, -6, -397, -398, MIN, MAX}) {
      argument("promise 26: of " + discriminant, Mills::some, mill -> mill.forms(discriminant));
      argument("promise 27: of " + discriminant, Mills::some, mill -> mill.formAt(discriminant, 0, 'a'));
      argument("promise 27: of " + discriminant + " before the form", Mills::some,
          mill -> mill.formAt(discriminant, -1, 'b'));
      argument("promise 27: of " + discriminant + " and the letter", Mills::some,
          mill -> mill.formAt(discriminant, 99, 'd'));
    }
    for (char which : new char[] {'`', 'd', 'A', 'C', 0, 'a' + 256, 65535}) {
      argument("promise 27: the letter " + (int) which, Mills::some, mill -> mill.formAt(-23, 0, which));
      argument("promise 27: the letter " + (int) which + " before -1", Mills::some,
          mill -> mill.formAt(-23, -1, which));
      argument("promise 27: the letter " + (int) which + " before 3", Mills::some,
          mill -> mill.formAt(-23, 3, which));
    }
    for (int index : new int[] {-1, 3, MIN, MAX}) {
      outside("promise 27: the form " + index, Mills::some, mill -> mill.formAt(-23, index, 'a'));
    }
  }

  private static void thetas() {
    for (int discriminant : new int[] {-401, -2, -1, 0, 1, -5, -6, -61, -62, MIN, MAX}) {
      argument("promise 28: of " + discriminant, Mills::some, mill -> mill.theta(discriminant, 0));
      argument("promise 28: of " + discriminant + " before the form", Mills::some,
          mill -> mill.theta(discriminant, -1));
      argument("promise 28: of " + discriminant + " before the 17th", Mills::full,
          mill -> mill.theta(discriminant, 0));
      argument("promise 28: of " + discriminant + " before all", Mills::full, mill -> mill.theta(discriminant, 99));
    }
    for (int index : new int[] {-1, 3, MIN, MAX}) {
      outside("promise 28: the form " + index, Mills::some, mill -> mill.theta(-23, index));
      outside("promise 28: the form " + index + " before the 17th", Mills::full, mill -> mill.theta(-23, index));
    }
    outside("promise 28: the form before the level", Mills::some, mill -> mill.theta(-63, 4));
    outside("promise 28: the form before the level and the 17th", Mills::full, mill -> mill.theta(-400, 4));
    unsupported("promise 28: the level 63", Mills::some, mill -> mill.theta(-63, 3));
    unsupported("promise 28: the level 64", Mills::some, mill -> mill.theta(-64, 0));
    unsupported("promise 28: the level 400", Mills::some, mill -> mill.theta(-400, 3));
    unsupported("promise 28: the level before the 17th", Mills::full, mill -> mill.theta(-63, 0));
    state("promise 28: a 17th series", Mills::full, mill -> mill.theta(-60, 1));
    state("promise 28: a 17th series of the least level", Mills::full, mill -> mill.theta(-3, 0));
  }

  private static void counts() {
    for (int n : new int[] {-1, 401, MIN, MAX}) {
      argument("promise 29: of " + n, Mills::some, mill -> mill.weighed(n));
    }
    int[][] wrong = {
      {0, 1}, {28, 1}, {1, 1}, {3, 1}, {13, 1}, {25, 1}, {27, 1}, {-12, 1}, {12, 0}, {12, 21}, {12, -1}, {28, 21},
      {0, 0}, {MIN, 1}, {MAX, 1}, {12, MIN}, {12, MAX}
    };
    for (int[] pair : wrong) {
      String name = "of the weight " + pair[0] + " and " + pair[1];
      argument("promise 30: " + name, Mills::some, mill -> mill.trace(pair[0], pair[1]));
      argument("promise 31: " + name, Mills::some, mill -> mill.traceAnew(pair[0], pair[1]));
    }
    refused("promise 38: no series", Mills::empty, Checks.ARITHMETIC, Heckeworks::toldShare);
    refused("promise 38: no series, but factors", () -> Mills.told(1, 24), Checks.ARITHMETIC, Heckeworks::toldShare);
  }

  private static int add(Heckeworks mill, int[] numbers) {
    return mill.curve(numbers[0], numbers[1], numbers[2], numbers[3], numbers[4]);
  }

  private static void curves() {
    for (int at = 0; at < 5; at++) {
      for (int number : new int[] {1000, -1000, MIN, MAX}) {
        int[] numbers = {1, 2, 3, 4, 5};
        numbers[at] = number;
        String name = "promise 32: " + number + " at " + at;
        argument(name, Mills::some, mill -> add(mill, numbers));
        argument(name + " before a 7th", Mills::full, mill -> add(mill, numbers));
      }
    }
    state("promise 32: a 7th curve", Mills::full, mill -> mill.curve(0, 0, 0, 0, 0));
    state("promise 32: a 7th curve at the ends", Mills::full, mill -> mill.curve(999, -999, 999, -999, 999));
  }

  private static void points() {
    for (int curve : new int[] {-1, 2, 6, MIN, MAX}) {
      outside("promise 33: no curve " + curve, Mills::some, mill -> mill.points(curve, 2));
      outside("promise 33: no curve " + curve + " before 4", Mills::some, mill -> mill.points(curve, 4));
      outside("promise 34: no curve " + curve, Mills::some, mill -> mill.isGood(curve, 97));
      outside("promise 34: no curve " + curve + " before 101", Mills::some, mill -> mill.isGood(curve, 101));
      outside("promise 35: no curve " + curve, Mills::some, mill -> mill.parts(curve, 0));
      outside("promise 35: no curve " + curve + " and no series", Mills::some, mill -> mill.parts(curve, 16));
    }
    for (int p : new int[] {1, 0, -1, -2, 4, 49, 91, 96, 98, 99, 101, MIN, MAX}) {
      argument("promise 33: at " + p, Mills::some, mill -> mill.points(0, p));
      argument("promise 34: at " + p, Mills::some, mill -> mill.isGood(1, p));
    }
    for (int series : new int[] {-1, Mills.SOME, 16, MIN, MAX}) {
      outside("promise 35: no series " + series, Mills::some, mill -> mill.parts(0, series));
    }
    outside("promise 33: no curves", Mills::empty, mill -> mill.points(0, 2));
    outside("promise 34: no curves", Mills::empty, mill -> mill.isGood(0, 2));
    outside("promise 35: neither curves nor series", Mills::empty, mill -> mill.parts(0, 0));
  }
}
