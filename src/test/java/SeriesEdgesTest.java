/** The boundaries that the document names for series, quotients of eta and bounds: calls just inside and outside. */
final class SeriesEdgesTest {
  private static final int MIN = Integer.MIN_VALUE;
  private static final int MAX = Integer.MAX_VALUE;

  private static final Checks checks = new Checks();

  public static void main(String[] args) {
    weightsOfEisenstein();
    divisors();
    factorNumbers();
    factorLevels();
    factorCounts();
    wholeOrNot();
    etaWeights();
    etaStarts();
    productWeights();
    productLevels();
    sumWeightsAndLevels();
    lesserPrecisions();
    raiseNumbers();
    raisePrecisions();
    raiseLevels();
    operatorNumbers();
    operatorPrecisions();
    operatorLevels();
    operatorDivisors();
    toldCoefficients();
    boundsRoundedDown();
    equalUpToTheBound();
    toldUpToTheBound();
    congruentModuli();
    checks.finish();
  }

  private static void described(String what, Heckeworks mill, int series, int weight, int level, int precision) {
    checks.answers(what + ", weight", weight, () -> mill.weight(series));
    checks.answers(what + ", level", level, () -> mill.level(series));
    checks.answers(what + ", precision", precision, () -> mill.precision(series));
    checks.answers(what + ", the last coefficient", true,
        () -> mill.coefficient(series, precision - 1) == mill.coefficient(series, precision - 1));
    checks.refuses(what + ", none behind it", Checks.MISSING, () -> mill.coefficient(series, precision));
  }

  private static void weightsOfEisenstein() {
    Heckeworks mill = new Heckeworks();
    int[][] known = {{4, 240}, {6, -504}, {8, 480}, {10, -264}, {14, -24}};
    for (int i = 0; i < known.length; i++) {
      int series = i;
      int[] row = known[i];
      checks.answers("promise 10: eisenstein(" + row[0] + ")", i, () -> mill.eisenstein(row[0]));
      described("promise 10: eisenstein(" + row[0] + ")", mill, i, row[0], 1, 64);
      checks.answers("promise 10: at 0", 1, () -> mill.coefficient(series, 0));
      checks.answers("promise 10: at 1", row[1], () -> mill.coefficient(series, 1));
    }
    for (int weight : new int[] {3, 5, 7, 9, 11, 12, 13, 15, 2, 0, 16, -4, 4 + 256, MIN, MIN + 4, MAX}) {
      checks.refuses("promise 10: eisenstein(" + weight + ")", Checks.ARGUMENT, () -> mill.eisenstein(weight));
    }
    checks.answers("promise 10: refused ones make none", 5, mill::series);
  }

  /** All divisors of n count, n itself and 1 too: 1 has one, 2 and 61 have two, 4 three, 60 twelve, 63 six. */
  private static void divisors() {
    Heckeworks mill = new Heckeworks();
    mill.eisenstein(4);
    long sixty = 0;
    for (long d : new long[] {1, 2, 3, 4, 5, 6, 10, 12, 15, 20, 30, 60}) {
      sixty += d * d * d;
    }
    long[][] sums = {
      {1, 1}, {2, 9}, {4, 73}, {60, sixty}, {61, 1 + 61 * 61 * 61}, {63, 1 + 27 + 343 + 729 + 9261 + 250047}
    };
    for (long[] row : sums) {
      checks.answers("promise 10: at " + row[0], 240 * row[1], () -> mill.coefficient(0, (int) row[0]));
    }
    mill.discriminant();
    described("promise 11: discriminant()", mill, 1, 12, 1, 64);
    checks.answers("promise 11: at 0", 0, () -> mill.coefficient(1, 0));
    checks.answers("promise 11: at 1", 1, () -> mill.coefficient(1, 1));
    checks.answers("promise 11: at 62", mill.coefficient(1, 2) * mill.coefficient(1, 31),
        () -> mill.coefficient(1, 62));
    checks.answers("promise 11: at 63", mill.coefficient(1, 7) * mill.coefficient(1, 9), () -> mill.coefficient(1, 63));
  }

  private static void factorNumbers() {
    int[][] inside = {{1, 1}, {30, 1}, {1, 24}, {1, -24}, {1, -1}, {30, -24}, {30, 24}, {29, 1}};
    for (int[] row : inside) {
      Heckeworks mill = new Heckeworks();
      checks.answers("promise 12: factor(" + row[0] + ", " + row[1] + ")", 1, () -> mill.factor(row[0], row[1]));
    }
    Heckeworks mill = new Heckeworks();
    int[][] outside = {
      {0, 1}, {31, 1}, {1, 25}, {1, -25}, {1, 0}, {30, 0}, {30, 25}, {0, 0}, {-1, 1}, {MIN, 1}, {MAX, 1}, {1, MIN},
      {1, MAX}
    };
    for (int[] row : outside) {
      checks.refuses("promise 12: factor(" + row[0] + ", " + row[1] + ")", Checks.ARGUMENT,
          () -> mill.factor(row[0], row[1]));
    }
    checks.answers("promise 12: refused ones do not count", 1, () -> mill.factor(1, 1));
  }

  /** First numbers that are told, then one that is, and one that is not. */
  private static void factorLevels() {
    int[][] known = {
      {30, 20, 7}, {30, 12, 25}, {20, 3, 9}, {12, 5, 8}, {29, 2, 3}, {15, 4, 8}, {28, 14, 3}, {27, 9, 4}, {1, 30, 0},
      {24, 16, 5}
    };
    for (int[] row : known) {
      Heckeworks mill = new Heckeworks();
      mill.factor(row[0], 1);
      String name = "promise 12: behind " + row[0];
      checks.answers(name + ", " + row[1], 2, () -> mill.factor(row[1], -1));
      if (row[2] > 0) {
        checks.refuses(name + " and " + row[1] + ", not " + row[2], Checks.UNSUPPORTED, () -> mill.factor(row[2], 1));
      }
      checks.answers(name + ", one more", 3, () -> mill.factor(1, 1));
    }
    // Just at 60 and just above it.
    int[][] pairs = {{30, 20, 60}, {30, 4, 60}, {29, 2, 58}, {28, 8, 56}, {27, 2, 54}, {11, 5, 55}, {19, 3, 57}};
    for (int[] row : pairs) {
      Heckeworks mill = new Heckeworks();
      mill.factor(row[0], 24);
      mill.factor(row[1], 24);
      checks.answers("promise 14: the level of " + row[0] + " and " + row[1], row[2], () -> made(mill));
    }
    int[][] beyond = {{30, 7}, {21, 9}, {16, 5}, {22, 3}, {13, 5}, {8, 9}, {29, 3}};
    for (int[] row : beyond) {
      Heckeworks mill = new Heckeworks();
      mill.factor(row[0], 24);
      checks.refuses("promise 12: " + row[0] + " and " + row[1], Checks.UNSUPPORTED, () -> mill.factor(row[1], 1));
      mill.factor(1, 24);
      checks.answers("promise 12: what is refused leaves the level " + row[0], row[0], () -> made(mill));
    }
  }

  /** The level of the series that is made now. */
  private static int made(Heckeworks mill) {
    return mill.level(mill.eta());
  }

  private static void factorCounts() {
    Heckeworks mill = new Heckeworks();
    for (int round = 0; round < 2; round++) {
      for (int i = 1; i <= 8; i++) {
        int due = i;
        checks.answers("promise 12: the factor " + i + " of the quotient " + round, due, () -> mill.factor(1, 3));
      }
      checks.refuses("promise 12: a 9th one", Checks.STATE, () -> mill.factor(1, 3));
      checks.refuses("promise 12: a 10th one", Checks.STATE, () -> mill.factor(30, -24));
      checks.answers("promise 14: of 8 factors", round, mill::eta);
    }
    mill.discriminant();
    checks.row("promise 14: those with one number all count", Mills.row(mill, 0), Mills.row(mill, 2));
    checks.row("promise 14: once more", Mills.row(mill, 1), Mills.row(mill, 2));
    checks.refuses("promise 14: it has no factors then", Checks.UNSUPPORTED, mill::eta);
  }

  /** The sum is 0 for some divisor of the level, or just above or below it, for the first, a middle and the last. */
  private static void wholeOrNot() {
    int[][] are = {
      {}, {1, 1}, {1, 1, 2, -1, 2, 1}, {2, 2, 1, -1}, {1, 2, 2, -1}, {4, -2, 2, 5, 1, -2}, {1, 24, 1, -24},
      {30, 1, 1, 1},
      {6, 2, 3, -1, 2, -1, 1, 2}, {9, 3, 3, -1}, {25, 5, 5, -1}, {1, 6, 2, -3}, {30, 24, 1, -20, 1, 20}
    };
    for (int[] factors : are) {
      Heckeworks mill = Mills.told(factors);
      checks.answers("promise 13: " + java.util.Arrays.toString(factors), true, mill::isWhole);
      checks.answers("promise 13: asked again", true, mill::isWhole);
    }
    int[][] areNot = {
      {1, -1}, {30, -1}, {2, 2, 1, -2}, {1, 2, 2, -2}, {4, -3, 2, 5, 1, -2}, {4, -2, 2, 4, 1, -2}, {4, 1, 2, -1},
      {4, 2, 2, -3, 1, 2},
      {9, 1, 3, -1}, {9, 2, 3, -1, 1, -1}, {1, 5, 2, -3}, {30, 1, 15, -1}
    };
    for (int[] factors : areNot) {
      Heckeworks mill = Mills.told(factors);
      checks.answers("promise 13: not " + java.util.Arrays.toString(factors), false, mill::isWhole);
    }
    Heckeworks mill = Mills.told(1, -24, 2, 24);
    checks.answers("promise 13: not at 1", false, mill::isWhole);
    mill.eta();
    checks.answers("promise 13: the next one has no factors", true, mill::isWhole);
  }

  private static void etaWeights() {
    int[][] inside = {
      {0, 1, 24, 1, -24}, {0, 2, 12, 1, -12, 1, -12, 2, 12}, {1, 24, 2}, {1, 1, 1, 23, 1}, {2, 1, 2, 11, 2},
      {60, 1, 24, 1, 24, 1, 24, 1, 24, 1, 24}, {60, 30, 24, 30, 24, 1, 24, 1, 24, 1, 24},
      {59, 1, 24, 1, 24, 1, 24, 1, 24, 24, 22}
    };
    for (int[] row : inside) {
      Heckeworks mill = Mills.told(java.util.Arrays.copyOfRange(row, 1, row.length));
      checks.answers("promise 14: the weight " + row[0], 0, mill::eta);
      checks.answers("promise 14: its weight " + row[0], row[0], () -> mill.weight(0));
    }
    // The weights -1, 1 / 2, 3 / 2, 61 - 1 / 2, 60 + 1 / 2, 61 and 96; where they begin is whole and not below 0.
    int[][] outside = {
      {24, 2, 12, -4}, {24, 1}, {24, 3}, {1, 24, 1, 24, 1, 24, 1, 24, 24, 24, 24, 1},
      {24, 24, 24, 24, 1, 24, 1, 24, 1, 24, 24, 1},
      {1, 24, 1, 24, 1, 24, 1, 24, 24, 24, 24, 2}, {1, 24, 1, 24, 1, 24, 1, 24, 1, 24, 1, 24, 1, 24, 1, 24}
    };
    for (int[] factors : outside) {
      Heckeworks mill = Mills.told(factors);
      checks.refuses("promise 14: " + java.util.Arrays.toString(factors), Checks.UNSUPPORTED, mill::eta);
      checks.answers("promise 14: no series of it", 0, mill::series);
    }
  }

  private static void etaStarts() {
    int[][] inside = {
      {0, 1, 24, 1, -24}, {0, 2, 6, 4, -6, 6, 2}, {1, 1, 24}, {2, 2, 24}, {30, 30, 24}, {62, 30, 24, 30, 24, 2, 24},
      {63, 30, 24, 30, 24, 1, 24, 1, 24, 1, 24}, {63, 21, 24, 21, 24, 21, 24}
    };
    for (int[] row : inside) {
      Heckeworks mill = Mills.told(java.util.Arrays.copyOfRange(row, 1, row.length));
      String name = "promise 14: it begins at " + row[0];
      checks.answers(name, 0, mill::eta);
      checks.answers(name + ", 1 there", 1, () -> mill.coefficient(0, row[0]));
      for (int i = 0; i < row[0]; i++) {
        int n = i;
        checks.answers(name + ", 0 at " + i, 0, () -> mill.coefficient(0, n));
      }
      described(name, mill, 0, mill.weight(0), mill.level(0), 64);
    }
    // At 64, 65, 1 / 12, 23 / 12, -1 / 12, -1 and -2.
    int[][] outside = {
      {30, 24, 30, 24, 2, 24, 2, 24}, {30, 24, 30, 24, 5, 24}, {1, 2}, {1, 22, 2, 12}, {2, -2, 1, 2},
      {24, -2, 1, 24}, {24, -4, 1, 24, 1, 24}
    };
    for (int[] factors : outside) {
      Heckeworks mill = Mills.told(factors);
      checks.refuses("promise 14: " + java.util.Arrays.toString(factors), Checks.UNSUPPORTED, mill::eta);
    }
  }

  private static void productWeights() {
    Heckeworks mill = Mills.some();
    checks.answers("promise 15: 60 and 0", 13, () -> mill.product(Mills.SIXTY, Mills.WEIGHT_0));
    described("promise 15: 60 and 0", mill, 13, 60, 2, 64);
    checks.answers("promise 15: 0 and 0", 14, () -> mill.product(Mills.WEIGHT_0, Mills.WEIGHT_0));
    described("promise 15: 0 and 0", mill, 14, 0, 2, 64);
    checks.refuses("promise 15: 60 and 1", Checks.UNSUPPORTED, () -> mill.product(Mills.SIXTY, Mills.THETA_7));
    checks.refuses("promise 15: 1 and 60", Checks.UNSUPPORTED, () -> mill.product(Mills.THETA_11, Mills.SIXTY));
    checks.answers("promise 15: 48 and 12", 15, () -> mill.product(Mills.TWELVE + 2, Mills.TOLD_1));
    described("promise 15: 48 and 12", mill, 15, 60, 1, 1);
  }

  /** Levels by theta series and by raising; their least common multiple is 60 at most, or just above it. */
  private static void productLevels() {
    Heckeworks mill = new Heckeworks();
    int[] discriminants = {-59, -60, -20, -15, -12, -31, -8, -7, -56};
    for (int discriminant : discriminants) {
      mill.theta(discriminant, 0);
    }
    int[][] inside = {{0, 0, 59}, {1, 1, 60}, {1, 2, 60}, {2, 3, 60}, {8, 6, 56}, {7, 6, 56}, {3, 4, 60}};
    for (int i = 0; i < inside.length; i++) {
      int[] row = inside[i];
      int due = discriminants.length + i;
      String name = "promise 15: the levels of " + discriminants[row[0]] + " and " + discriminants[row[1]];
      checks.answers(name, due, () -> mill.product(row[0], row[1]));
      described(name, mill, due, 2, row[2], 64);
    }
    int[][] outside = {{0, 1}, {1, 0}, {5, 6}, {6, 5}, {7, 4}, {8, 1}, {3, 6}};
    for (int[] row : outside) {
      String name = discriminants[row[0]] + " and " + discriminants[row[1]];
      checks.refuses("promise 15: the levels of " + name, Checks.UNSUPPORTED, () -> mill.product(row[0], row[1]));
      checks.refuses("promise 16: the levels of " + name, Checks.UNSUPPORTED, () -> mill.sum(row[0], row[1], 1));
      checks.refuses("promise 23: the levels of " + name, Checks.UNSUPPORTED, () -> mill.bound(row[0], row[1]));
      checks.refuses("promise 24: the levels of " + name, Checks.UNSUPPORTED, () -> mill.isEqual(row[0], row[1]));
      checks.refuses("promise 25: the levels of " + name, Checks.UNSUPPORTED,
          () -> mill.isCongruent(row[0], row[1], 2));
    }
    // The index is 144 there.
    checks.answers("promise 23: at the level 60 and the weight 2", 24, () -> mill.bound(10, 11));
    checks.answers("promise 23: at the level 60 and the weight 1", 12, () -> mill.bound(1, 2));
  }

  private static void sumWeightsAndLevels() {
    Heckeworks mill = new Heckeworks();
    mill.theta(-60, 0);
    mill.theta(-20, 1);
    mill.theta(-59, 0);
    mill.eisenstein(4);
    mill.eisenstein(6);
    for (int times : new int[] {0, 1, -1, MAX, MIN}) {
      int due = mill.series();
      String name = "promise 16: the level 60, times " + times;
      checks.answers(name, due, () -> mill.sum(1, 0, times));
      described(name, mill, due, 1, 60, 64);
      checks.answers(name + ", at 0", 1 + (long) times, () -> mill.coefficient(due, 0));
      checks.answers(name + ", at 60", mill.coefficient(1, 60) + 2L * times, () -> mill.coefficient(due, 60));
      checks.answers(name + ", at 63", mill.coefficient(1, 63), () -> mill.coefficient(due, 63));
    }
    checks.refuses("promise 16: the level 60 * 59", Checks.UNSUPPORTED, () -> mill.sum(0, 2, 1));
    checks.refuses("promise 16: the weights 1 and 4", Checks.UNSUPPORTED, () -> mill.sum(0, 3, 1));
    checks.refuses("promise 16: the weights 4 and 6", Checks.UNSUPPORTED, () -> mill.sum(3, 4, 1));
    checks.refuses("promise 16: the weights 6 and 4, times 0", Checks.UNSUPPORTED, () -> mill.sum(4, 3, 0));
    // Times counts for the second one alone.
    int first = mill.series();
    mill.raise(3, 2);
    mill.sum(3, first, 5);
    mill.sum(first, 3, 5);
    checks.answers("promise 16: times the second one", 240, () -> mill.coefficient(first + 1, 1));
    checks.answers("promise 16: times the second one, turned", 1200, () -> mill.coefficient(first + 2, 1));
  }

  private static void lesserPrecisions() {
    Heckeworks mill = new Heckeworks();
    mill.eisenstein(4);
    int[][] known = {{63, 2}, {32, 2}, {31, 3}, {1, 64}};
    for (int[] row : known) {
      int told = mill.series();
      mill.operator(0, row[0]);
      String name = "precision " + row[1];
      checks.answers("promise 15: " + name + " first", told + 1, () -> mill.product(told, 0));
      described("promise 15: " + name + " first", mill, told + 1, 8, 1, row[1]);
      checks.answers("promise 16: " + name + " last", told + 2, () -> mill.sum(0, told, 1));
      described("promise 16: " + name + " last", mill, told + 2, 4, 1, row[1]);
    }
    Heckeworks other = new Heckeworks();
    other.eisenstein(4);
    other.operator(0, 63);
    other.operator(1, 63);
    described("promise 18: the precision 1", other, 2, 4, 1, 1);
    other.product(2, 0);
    described("promise 15: the precision 1 first", other, 3, 8, 1, 1);
    other.product(1, 2);
    described("promise 15: the precision 1 last", other, 4, 8, 1, 1);
    checks.answers("promise 15: the precision 1", other.coefficient(1, 0) * other.coefficient(2, 0),
        () -> other.coefficient(4, 0));
    other.sum(2, 2, -1);
    described("promise 16: the precision 1 twice", other, 5, 4, 1, 1);
    checks.answers("promise 16: the precision 1 twice", 0, () -> other.coefficient(5, 0));
    other.raise(2, 1);
    described("promise 17: the precision 1", other, 6, 4, 1, 1);
    other.raise(2, 30);
    described("promise 17: the precision 30", other, 7, 4, 30, 30);
    checks.answers("promise 17: the first of 30", other.coefficient(2, 0), () -> other.coefficient(7, 0));
    checks.answers("promise 17: the last of 30", 0, () -> other.coefficient(7, 29));
  }

  private static void raiseNumbers() {
    Heckeworks mill = new Heckeworks();
    mill.discriminant();
    for (int d : new int[] {1, 2, 29, 30}) {
      int due = mill.series();
      String name = "promise 17: by " + d;
      checks.answers(name, due, () -> mill.raise(0, d));
      described(name, mill, due, 12, d, 64);
      checks.answers(name + ", at " + d, 1, () -> mill.coefficient(due, d));
      checks.answers(name + ", behind it", d == 1 ? -24 : 0, () -> mill.coefficient(due, d + 1));
      checks.answers(name + ", at " + 2 * d, -24, () -> mill.coefficient(due, 2 * d));
      checks.answers(name + ", before it", d == 1 ? 1 : 0, () -> mill.coefficient(due, 2 * d - 1));
    }
    for (int d : new int[] {0, 31, -1, -30, MIN, MAX}) {
      checks.refuses("promise 17: by " + d, Checks.ARGUMENT, () -> mill.raise(0, d));
    }
  }

  /** Precisions whose multiple is just below 64, at it, and just above. */
  private static void raisePrecisions() {
    int[][] known = {
      {63, 30, 60}, {31, 21, 63}, {31, 22, 64}, {20, 15, 60}, {20, 16, 64}, {20, 17, 64}, {9, 7, 56}, {9, 8, 64},
      {9, 9, 64}, {10, 9, 63}, {10, 10, 64}, {2, 1, 32}, {2, 2, 64}, {2, 3, 64}, {1, 1, 64}, {1, 2, 64}, {12, 10, 60},
      {12, 11, 64}
    };
    for (int[] row : known) {
      Heckeworks mill = new Heckeworks();
      mill.eisenstein(4);
      mill.operator(0, row[0]);
      String name = "promise 17: precision " + mill.precision(1) + " by " + row[1];
      checks.answers(name, 2, () -> mill.raise(1, row[1]));
      described(name, mill, 2, 4, row[1], row[2]);
      for (int n = 0; n < row[2]; n++) {
        int at = n;
        checks.answers(name + " at " + n, n % row[1] == 0 ? mill.coefficient(1, n / row[1]) : 0,
            () -> mill.coefficient(2, at));
      }
    }
  }

  private static void raiseLevels() {
    int[][] known = {
      {30, 2, 60}, {30, 3, 0}, {20, 3, 60}, {20, 4, 0}, {2, 30, 60}, {3, 21, 0}, {3, 20, 60}, {29, 2, 58}, {29, 3, 0},
      {7, 8, 56}, {7, 9, 0}, {1, 30, 30}, {15, 4, 60}, {15, 5, 0}
    };
    for (int[] row : known) {
      Heckeworks mill = new Heckeworks();
      mill.eisenstein(6);
      mill.raise(0, row[0]);
      String name = "promise 17: the level " + row[0] + " by " + row[1];
      if (row[2] == 0) {
        checks.refuses(name, Checks.UNSUPPORTED, () -> mill.raise(1, row[1]));
      } else {
        checks.answers(name, 2, () -> mill.raise(1, row[1]));
        described(name, mill, 2, 6, row[2], 64);
      }
    }
    Heckeworks mill = new Heckeworks();
    mill.theta(-31, 0);
    mill.theta(-60, 0);
    checks.refuses("promise 17: the level 62", Checks.UNSUPPORTED, () -> mill.raise(0, 2));
    checks.refuses("promise 17: the level 120", Checks.UNSUPPORTED, () -> mill.raise(1, 2));
    checks.answers("promise 17: the level 60 by 1", 2, () -> mill.raise(1, 1));
  }

  private static void operatorNumbers() {
    Heckeworks mill = new Heckeworks();
    mill.discriminant();
    for (int n : new int[] {1, 2, 62, 63}) {
      int due = mill.series();
      String name = "promise 18: by " + n;
      checks.answers(name, due, () -> mill.operator(0, n));
      described(name, mill, due, 12, 1, 63 / n + 1);
      checks.answers(name + ", at 0", 0, () -> mill.coefficient(due, 0));
      checks.answers(name + ", at 1", mill.coefficient(0, n), () -> mill.coefficient(due, 1));
    }
    checks.row("promise 18: by 1, all stay", Mills.row(mill, 1), Mills.row(mill, 0));
    for (int n : new int[] {0, 64, -1, -63, MIN, MAX}) {
      checks.refuses("promise 18: by " + n, Checks.ARGUMENT, () -> mill.operator(0, n));
    }
  }

  /** The precision less 1 is just below a multiple, at it and just above; the plain mill has the same coefficients. */
  private static void operatorPrecisions() {
    for (int before = 1; before <= 63; before += before < 12 ? 1 : 7) {
      for (int n = 1; n <= 63; n += n < 34 ? 1 : 9) {
        Heckeworks mill = new Heckeworks();
        PlainMill plain = new PlainMill();
        mill.eisenstein(8);
        plain.eisenstein(8);
        mill.operator(0, before);
        plain.operator(0, before);
        mill.operator(1, n);
        plain.operator(1, n);
        StringBuilder due = new StringBuilder();
        for (int m = 0; m < plain.precision(2); m++) {
          due.append(m == 0 ? "" : ", ").append(plain.coefficient(2, m));
        }
        String name = "promise 18: the operators " + before + " and " + n;
        checks.answers(name + ", precision", (63 / before) / n + 1, () -> mill.precision(2));
        checks.same(name, java.util.Arrays.toString(Mills.row(mill, 2)), "[" + due + "]");
      }
    }
  }

  private static void operatorLevels() {
    int[][] known = {
      {30, 1, 1}, {30, 7, 1}, {30, 49, 1}, {30, 2, 0}, {30, 9, 0}, {30, 25, 0}, {30, 14, 0}, {30, 63, 0}, {29, 29, 0},
      {29, 58, 0}, {29, 30, 1}, {29, 28, 1}, {9, 3, 0}, {9, 6, 0}, {9, 8, 1}, {8, 2, 0}, {8, 63, 1}
    };
    for (int[] row : known) {
      Heckeworks mill = new Heckeworks();
      mill.eisenstein(4);
      mill.raise(0, row[0]);
      String name = "promise 18: the level " + row[0] + " and " + row[1];
      if (row[2] == 0) {
        checks.refuses(name, Checks.UNSUPPORTED, () -> mill.operator(1, row[1]));
      } else {
        checks.answers(name, 2, () -> mill.operator(1, row[1]));
        described(name, mill, 2, 4, row[0], 63 / row[1] + 1);
      }
    }
    // The weight 0, at the level 1 too, against the weight 1.
    Heckeworks mill = Mills.told(1, 24, 1, -24);
    mill.eta();
    described("promise 18: the weight 0", mill, 0, 0, 1, 64);
    for (int n : new int[] {1, 2, 63}) {
      checks.refuses("promise 18: the weight 0 and " + n, Checks.UNSUPPORTED, () -> mill.operator(0, n));
    }
    mill.theta(-4, 0);
    checks.answers("promise 18: the weight 1", 2, () -> mill.operator(1, 3));
    checks.answers("promise 18: the weight 1 at 3", mill.coefficient(1, 9) + mill.coefficient(1, 1),
        () -> mill.coefficient(2, 3));
  }

  /** At m the common divisors of m and n: 1 alone, 1 and 2, and 1, 2, 3 and 6; at 0 all divisors of n. */
  private static void operatorDivisors() {
    Heckeworks mill = new Heckeworks();
    mill.eisenstein(4);
    mill.operator(0, 6);
    long[] told = Mills.row(mill, 0);
    long[] due = {
      told[0] * (1 + 8 + 27 + 216), told[6], told[12] + 8 * told[3], told[18] + 27 * told[2], told[24] + 8 * told[6],
      told[30], told[36] + 8 * told[9] + 27 * told[4] + 216 * told[1]
    };
    for (int i = 0; i < due.length; i++) {
      int m = i;
      checks.answers("promise 18: the operator 6 at " + i, due[i], () -> mill.coefficient(1, m));
    }
  }

  private static void toldCoefficients() {
    Heckeworks mill = new Heckeworks();
    mill.eisenstein(4);
    mill.operator(0, 31);
    mill.operator(0, 63);
    mill.operator(2, 2);
    int[] precisions = {64, 3, 2, 1};
    for (int i = 0; i < precisions.length; i++) {
      int series = i;
      int precision = precisions[i];
      described("promise 21: the precision " + precision, mill, i, 4, 1, precision);
      checks.answers("promise 22: at 0", true, () -> mill.coefficient(series, 0) > 0);
      for (int n : new int[] {-1, precision, precision + 1, 64, 65, MIN, MAX}) {
        checks.refuses("promise 22: at " + n + " of " + precision, Checks.MISSING, () -> mill.coefficient(series, n));
      }
    }
  }

  /** The weight times the index is just below a multiple of 12, at it, and just above. */
  private static void boundsRoundedDown() {
    // E by its weight, raised to a level: 4 * 3 = 12, 4 * 4 = 16, 6 * 3 = 18, 6 * 4 = 24, 10 * 1, 14 * 1, 8 * 1, 8 * 3.
    int[][] known = {
      {4, 1, 0}, {4, 2, 1}, {4, 3, 1}, {4, 4, 2}, {6, 1, 0}, {6, 2, 1}, {6, 3, 2}, {8, 1, 0}, {8, 2, 2}, {10, 1, 0},
      {10, 2, 2}, {14, 1, 1}, {14, 2, 3}, {4, 30, 24}, {14, 30, 84}, {14, 29, 35}, {6, 7, 4}, {10, 5, 5}, {14, 13, 16}
    };
    for (int[] row : known) {
      Heckeworks mill = new Heckeworks();
      mill.eisenstein(row[0]);
      mill.raise(0, row[1]);
      String name = "promise 23: the weight " + row[0] + " at the level " + row[1];
      checks.answers(name, row[2], () -> mill.bound(0, 1));
      checks.answers(name + ", turned", row[2], () -> mill.bound(1, 0));
      checks.answers(name + ", with itself", row[2], () -> mill.bound(1, 1));
    }
    Heckeworks mill = Mills.some();
    checks.answers("promise 23: the weight 0", 0, () -> mill.bound(Mills.WEIGHT_0, Mills.WEIGHT_0));
    checks.answers("promise 23: the weight 1 and the index 8", 0, () -> mill.bound(Mills.THETA_7, Mills.THETA_7));
    checks.answers("promise 23: the weight 1 and the index 12", 1, () -> mill.bound(Mills.THETA_11, Mills.THETA_11));
    checks.answers("promise 23: the weight 12", 1, () -> mill.bound(Mills.TWELVE, Mills.TOLD_1));
    checks.answers("promise 23: the weight 60", 5, () -> mill.bound(Mills.SIXTY, Mills.SIXTY));
  }

  /**
   * Quotients of the weight 12 and the level 2, whose bound is 3: one begins at 2, one at 3 and one at 4, and another
   * one, which is 0 all over, is the same as the last up to the bound alone.
   */
  private static void equalUpToTheBound() {
    Heckeworks mill = new Heckeworks();
    int[][] quotients = {{2, 24}, {2, 24, 2, 24, 1, -24}, {2, 24, 2, 24, 2, 24, 1, -24, 1, -24}};
    for (int i = 0; i < quotients.length; i++) {
      int start = i + 2;
      int series = i;
      Mills.tell(mill, quotients[i]);
      mill.eta();
      described("promise 14: begins at " + start, mill, i, 12, 2, 64);
      checks.answers("promise 14: begins at " + start, 1, () -> mill.coefficient(series, start));
    }
    mill.sum(2, 2, -1);
    checks.answers("promise 23: the bound", 3, () -> mill.bound(2, 3));
    checks.answers("promise 24: another one before the bound", false, () -> mill.isEqual(0, 3));
    checks.answers("promise 24: another one at the bound", false, () -> mill.isEqual(1, 3));
    checks.answers("promise 24: another one at the bound, turned", false, () -> mill.isEqual(3, 1));
    checks.answers("promise 24: another one just behind the bound", true, () -> mill.isEqual(2, 3));
    checks.answers("promise 25: another one before the bound", false, () -> mill.isCongruent(0, 3, 2));
    checks.answers("promise 25: another one at the bound", false, () -> mill.isCongruent(3, 1, 2));
    checks.answers("promise 25: another one just behind the bound", true, () -> mill.isCongruent(2, 3, 9999));
    // By 5 times at the bound and just before it.
    mill.sum(3, 1, 5);
    mill.sum(3, 0, 5);
    checks.answers("promise 25: 5 at the bound, modulo 5", true, () -> mill.isCongruent(3, 4, 5));
    checks.answers("promise 25: 5 at the bound, modulo 6", false, () -> mill.isCongruent(3, 4, 6));
    checks.answers("promise 25: 5 before the bound, modulo 5", true, () -> mill.isCongruent(5, 3, 5));
    checks.answers("promise 25: 5 before the bound, modulo 4", false, () -> mill.isCongruent(5, 3, 4));
    // The weight 0, whose bound is 0: what begins at 1 is the same as 0.
    Heckeworks other = Mills.told(1, -24, 2, 24);
    other.eta();
    other.sum(0, 0, -1);
    Mills.tell(other, 1, 24, 2, -24, 2, 24, 1, -24);
    other.eta();
    checks.answers("promise 24: the weight 0, from 1 on", true, () -> other.isEqual(0, 1));
    checks.answers("promise 24: the weight 0, at 0", false, () -> other.isEqual(1, 2));
    checks.answers("promise 25: the weight 0, from 1 on", true, () -> other.isCongruent(0, 1, 2));
    checks.answers("promise 25: the weight 0, at 0", false, () -> other.isCongruent(1, 2, 9999));
  }

  /** The bound is just one less than the precision, or just the precision. */
  private static void toldUpToTheBound() {
    // 54 times 14 and 32 times 24, divided by 12, are 63 and 64.
    Heckeworks mill = new Heckeworks();
    mill.eisenstein(14);
    mill.product(0, 0);
    mill.discriminant();
    mill.product(1, 2);
    mill.product(3, 0);
    mill.raise(4, 13);
    checks.answers("promise 19: the weight 54", 54, () -> mill.weight(5));
    checks.answers("promise 23: the bound 63", 63, () -> mill.bound(5, 5));
    checks.answers("promise 24: 64 coefficients", true, () -> mill.isEqual(5, 5));
    checks.answers("promise 25: 64 coefficients", true, () -> mill.isCongruent(5, 5, 2));
    checks.answers("promise 24: 64 coefficients of two", false, () -> mill.isEqual(5, 4));
    mill.eisenstein(4);
    mill.product(6, 1);
    mill.raise(7, 23);
    checks.answers("promise 19: the weight 32", 32, () -> mill.weight(8));
    checks.answers("promise 23: the bound 64", 64, () -> mill.bound(8, 8));
    checks.refuses("promise 24: 64 coefficients of 65", Checks.UNSUPPORTED, () -> mill.isEqual(8, 8));
    checks.refuses("promise 25: 64 coefficients of 65", Checks.UNSUPPORTED, () -> mill.isCongruent(8, 8, 2));
    checks.refuses("promise 24: the other way", Checks.UNSUPPORTED, () -> mill.isEqual(7, 8));
    // Told up to 1 and to 0 alone, and times others: the weights 4, 4, 32 and 18.
    mill.operator(6, 63);
    mill.operator(9, 2);
    mill.product(9, 1);
    mill.product(10, 0);
    checks.answers("promise 23: the bound 2", 2, () -> mill.bound(7, 11));
    checks.answers("promise 21: the precision 2", 2, () -> mill.precision(11));
    checks.refuses("promise 24: the bound 2 and the precision 2", Checks.UNSUPPORTED, () -> mill.isEqual(7, 11));
    checks.answers("promise 21: the precision 1", 1, () -> mill.precision(10));
    checks.answers("promise 24: the bound 0 and the precision 1", true, () -> mill.isEqual(10, 10));
    checks.answers("promise 24: the bound 0 and the precisions 1 and 64", false, () -> mill.isEqual(6, 10));
    checks.answers("promise 23: the bound 1", 1, () -> mill.bound(12, 12));
    checks.refuses("promise 24: the bound 1 and the precision 1", Checks.UNSUPPORTED, () -> mill.isEqual(12, 12));
    checks.refuses("promise 25: the bound 1 and the precision 1", Checks.UNSUPPORTED,
        () -> mill.isCongruent(12, 12, 9999));
    anotherOneAt63();
  }

  /** A quotient of the weight 54 and the level 13 that begins at 63, its bound, and what is 0 all over. */
  private static void anotherOneAt63() {
    Heckeworks mill = Mills.told(13, 24, 13, 24, 13, 24, 13, 24, 13, 21, 1, -9);
    mill.eta();
    described("promise 14: it begins at 63", mill, 0, 54, 13, 64);
    mill.sum(0, 0, -1);
    checks.answers("promise 23: it is the bound", 63, () -> mill.bound(0, 1));
    checks.answers("promise 24: another one at 63", false, () -> mill.isEqual(0, 1));
    checks.answers("promise 25: another one at 63", false, () -> mill.isCongruent(1, 0, 2));
    mill.sum(1, 0, 9999);
    checks.answers("promise 25: by 9999 at 63", true, () -> mill.isCongruent(1, 2, 9999));
    checks.answers("promise 24: by 9999 at 63", false, () -> mill.isEqual(1, 2));
  }

  private static void congruentModuli() {
    Heckeworks mill = new Heckeworks();
    mill.discriminant();
    mill.sum(0, 0, -1);
    mill.sum(1, 0, 9999);
    mill.sum(1, 0, -9999);
    mill.sum(1, 0, -2);
    mill.sum(1, 0, 9997);
    for (int m : new int[] {2, 9999}) {
      checks.answers("promise 25: with itself modulo " + m, true, () -> mill.isCongruent(0, 0, m));
    }
    for (int m : new int[] {1, 0, -1, -2, -9999, 10000, MIN, MAX}) {
      checks.refuses("promise 25: modulo " + m, Checks.ARGUMENT, () -> mill.isCongruent(0, 0, m));
    }
    boolean[][] known = {
      // Modulo 9999 and 2: 0 and 9999, 0 and -9999, -2 and 9997, 9999 and -9999, 1 and 9997, -2 and 1.
      {true, false}, {true, false}, {true, false}, {true, true}, {false, true}, {false, false}
    };
    int[][] pairs = {{1, 2}, {1, 3}, {4, 5}, {2, 3}, {0, 5}, {4, 0}};
    for (int i = 0; i < pairs.length; i++) {
      int[] pair = pairs[i];
      String name = "promise 25: " + mill.coefficient(pair[0], 1) + " and " + mill.coefficient(pair[1], 1);
      checks.answers(name + " modulo 9999", known[i][0], () -> mill.isCongruent(pair[0], pair[1], 9999));
      checks.answers(name + " modulo 2", known[i][1], () -> mill.isCongruent(pair[0], pair[1], 2));
      checks.answers(name + " modulo 9999, turned", known[i][0], () -> mill.isCongruent(pair[1], pair[0], 9999));
    }
  }
}
