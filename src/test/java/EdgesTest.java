/**
 * The boundaries that the document names for groups, symbols, forms, traces and curves: a call just inside of each and
 * one just outside. SeriesEdgesTest has those of series.
 */
final class EdgesTest {
  private static final int MIN = Integer.MIN_VALUE;
  private static final int MAX = Integer.MAX_VALUE;

  private static final Checks checks = new Checks();
  private static final Supply supply = new Supply();

  public static void main(String[] args) {
    levels();
    pairs();
    cosetsInOrder();
    widths();
    bothGenera();
    fractions();
    steps();
    signsOfSteps();
    discriminants();
    reducedForms();
    formIndices();
    thetas();
    weighedCounts();
    traces();
    curveNumbers();
    primes();
    goodOrNot();
    partsByWhatIsTold();
    partsAtTheLastPrime();
    checks.finish();
  }

  private static Heckeworks mill() {
    return supply.mill();
  }

  private static void levels() {
    int[] least = {1, 1, 0};
    int[] greatest = {144, 12, 7};
    for (int[] row : new int[][] {{1, 0}, {60, 1}}) {
      int level = row[0];
      int[] due = row[1] == 0 ? least : greatest;
      checks.answers("promise 2: index(" + level + ")", due[0], () -> mill().index(level));
      checks.answers("promise 4: cusps(" + level + ")", due[1], () -> mill().cusps(level));
      checks.answers("promise 6: genus(" + level + ")", due[2], () -> mill().genus(level));
      checks.answers("promise 7: genusAnew(" + level + ")", due[2], () -> mill().genusAnew(level));
      checks.answers("promise 39: meanWidth(" + level + ")", row[1] == 0 ? 1.0 : 12.0, () -> mill().meanWidth(level));
      checks.answers("promise 40: widthBits(" + level + ")", row[1] == 0 ? 0x3FF0000000000000L : 0x4028000000000000L,
          () -> mill().widthBits(level));
    }
    for (int level : new int[] {0, 61, MIN, MAX}) {
      checks.refuses("promise 2: index(" + level + ")", Checks.ARGUMENT, () -> mill().index(level));
      checks.refuses("promise 4: cusps(" + level + ")", Checks.ARGUMENT, () -> mill().cusps(level));
      checks.refuses("promise 6: genus(" + level + ")", Checks.ARGUMENT, () -> mill().genus(level));
      checks.refuses("promise 7: genusAnew(" + level + ")", Checks.ARGUMENT, () -> mill().genusAnew(level));
      checks.refuses("promise 39: meanWidth(" + level + ")", Checks.ARGUMENT, () -> mill().meanWidth(level));
      checks.refuses("promise 40: widthBits(" + level + ")", Checks.ARGUMENT, () -> mill().widthBits(level));
    }
    // Means that are no whole number, the greatest one of all, and those of neighbours.
    double[][] means = {
      {2, 1.5}, {10, 4.5}, {18, 4.5}, {26, 10.5}, {34, 13.5}, {50, 7.5}, {53, 27}, {58, 22.5}, {59, 30}
    };
    for (double[] row : means) {
      int level = (int) row[0];
      checks.answers("promise 39: meanWidth(" + level + ")", row[1], () -> mill().meanWidth(level));
      checks.answers("promise 40: widthBits(" + level + ")", Double.doubleToLongBits(row[1]),
          () -> mill().widthBits(level));
    }
    checks.answers("promise 40: widthBits(2), by hand", 0x3FF8000000000000L, () -> mill().widthBits(2));
  }

  private static void pairs() {
    // A pair with a common divisor is none of a coset only if the level has that divisor too.
    int[][] are = {
      {5, 2, 4, 3}, {4, 3, 3, 2}, {6, 5, 5, 2}, {9, 2, 2, 2}, {1, 0, 0, 0}, {1, 7, 7, 0}, {1, MIN, MAX, 0},
      {2, 0, 1, 0}, {2, 1, 0, 1}, {2, 1, 1, 2}, {6, 3, 2, 11}, {6, 2, 3, 8}, {6, 4, 3, 8}, {6, 3, 4, 11},
      {60, 30, 1, 143}, {60, 30, 59, 143}, {60, 30, 31, 143}
    };
    for (int[] row : are) {
      checks.answers("promise 3: coset(" + row[0] + ", " + row[1] + ", " + row[2] + ")", row[3],
          () -> mill().coset(row[0], row[1], row[2]));
    }
    int[][] areNot = {
      {4, 2, 2}, {4, 0, 2}, {4, 2, 0}, {4, 0, 0}, {2, 0, 0}, {6, 3, 3}, {6, 2, 4}, {6, 0, 3}, {9, 3, 6}, {60, 30, 30},
      {60, 30, 32}, {60, 15, 0}, {59, 0, 0}, {59, 59, -59}, {2, MIN, MIN}, {60, -2, 4}
    };
    for (int[] row : areNot) {
      checks.refuses("promise 3: coset(" + row[0] + ", " + row[1] + ", " + row[2] + ")", Checks.UNSUPPORTED,
          () -> mill().coset(row[0], row[1], row[2]));
    }
    // Taken modulo the level: from the level on, below 0, and at the ends of the ints, 2^31 being 2 modulo 7.
    int[][] moduloSeven = {
      {7, 6, 0}, {6, 7, 1}, {8, 8, 2}, {-1, 0, 1}, {0, -1, 0}, {-1, -1, 2}, {MIN, 0, 1}, {MIN, MIN, 2}, {MAX, MAX, 2},
      {MAX, 1, 2}, {1, MIN, 6}, {MIN, MAX, 4}
    };
    for (int[] row : moduloSeven) {
      checks.answers("promise 3: coset(7, " + row[0] + ", " + row[1] + ")", row[2],
          () -> mill().coset(7, row[0], row[1]));
    }
  }

  /** The least pairs of all cosets, by c, then by d: each one's number is its place, and its multiples have it too. */
  private static void cosetsInOrder() {
    int[][] levels = {
      {4, 0, 1, 1, 0, 1, 1, 1, 2, 1, 3, 2, 1},
      {6, 0, 1, 1, 0, 1, 1, 1, 2, 1, 3, 1, 4, 1, 5, 2, 1, 2, 3, 2, 5, 3, 1, 3, 2},
      {8, 0, 1, 1, 0, 1, 1, 1, 2, 1, 3, 1, 4, 1, 5, 1, 6, 1, 7, 2, 1, 2, 3, 4, 1}
    };
    for (int[] row : levels) {
      int level = row[0];
      for (int i = 0; 2 * i + 2 < row.length; i++) {
        int c = row[2 * i + 1];
        int d = row[2 * i + 2];
        checks.answers("promise 3: coset " + i + " of " + level, i, () -> mill().coset(level, c, d));
        checks.answers("promise 3: coset " + i + " of " + level + ", the other sign", i,
            () -> mill().coset(level, -c, -d));
        checks.answers("promise 3: coset " + i + " of " + level + ", times what divides nothing of it", i,
            () -> mill().coset(level, c * 5, d * 5));
      }
      checks.answers("promise 2: index(" + level + ")", row.length / 2, () -> mill().index(level));
    }
    checks.answers("promise 3: of the level 8, times 3", 9, () -> mill().coset(8, 6, 3));
    checks.answers("promise 3: of the level 8, times 7", 9, () -> mill().coset(8, 6, 7));
    checks.answers("promise 3: of the level 8, another one", 10, () -> mill().coset(8, 6, 1));
  }

  private static void widths() {
    int[][] known = {
      {1, 1}, {2, 1, 2}, {4, 1, 4, 1}, {8, 1, 8, 2, 1}, {12, 1, 12, 3, 4, 3, 1},
      {60, 1, 60, 15, 20, 15, 12, 5, 3, 5, 4, 3, 1}
    };
    for (int[] row : known) {
      int level = row[0];
      for (int i = 0; i + 1 < row.length; i++) {
        int cusp = i;
        checks.answers("promise 5: width(" + level + ", " + i + ")", row[i + 1], () -> mill().width(level, cusp));
      }
      checks.answers("promise 4: cusps(" + level + ")", row.length - 1, () -> mill().cusps(level));
      for (int cusp : new int[] {-1, row.length - 1, MIN, MAX}) {
        checks.refuses("promise 5: width(" + level + ", " + cusp + ")", Checks.BOUNDS, () -> mill().width(level, cusp));
      }
    }
  }

  /** Levels whose e2 or e3 is 0 and not 0, with 4 or 9 among their divisors and just without. */
  private static void bothGenera() {
    int[][] known = {
      {2, 0}, {3, 0}, {4, 0}, {5, 0}, {6, 0}, {7, 0}, {8, 0}, {9, 0}, {10, 0}, {12, 0}, {13, 0}, {16, 0}, {18, 0},
      {20, 1}, {21, 1}, {25, 0}, {26, 2}, {27, 1}, {34, 3}, {36, 1}, {39, 3}, {45, 3}, {49, 1}, {50, 2}, {52, 5},
      {57, 5}, {58, 6}, {59, 5}
    };
    for (int[] row : known) {
      checks.answers("promise 6: genus(" + row[0] + ")", row[1], () -> mill().genus(row[0]));
      checks.answers("promise 7: genusAnew(" + row[0] + ")", row[1], () -> mill().genusAnew(row[0]));
    }
  }

  private static void fractions() {
    int[][] known = {
      {9999, 1, 1}, {-9999, 1, 1}, {9999, 9999, 1}, {-9999, 9999, 1}, {0, 9999, 1}, {0, 1, 1}, {1, 9999, 2},
      {-1, 9999, 3}, {9999, 9998, 2}, {9998, 9999, 3}, {-9999, 9998, 3}, {-9998, 9999, 2}, {9999, 2, 2},
      {4181, 6765, 19},
      {-2584, 6765, 19}, {6, 4, 2}, {-6, 4, 2}, {8, 4, 1}, {-8, 4, 1}, {7, 4, 3}, {-7, 4, 2}
    };
    for (int[] row : known) {
      checks.answers("promise 8: steps(" + row[0] + ", " + row[1] + ")", row[2], () -> mill().steps(row[0], row[1]));
    }
    int[][] wrong = {{10000, 1}, {-10000, 1}, {9999, 0}, {9999, 10000}, {0, 0}, {0, -1}, {MIN, 9999}, {MAX, 9999}};
    for (int[] row : wrong) {
      checks.refuses("promise 8: steps(" + row[0] + ", " + row[1] + ")", Checks.ARGUMENT,
          () -> mill().steps(row[0], row[1]));
    }
  }

  private static void steps() {
    for (int level : new int[] {1, 60}) {
      checks.answers("promise 9: the level " + level, level == 1 ? 0 : 1, () -> mill().step(level, 9999, 9999, 0));
      checks.answers("promise 9: the level " + level + " and -9999 / 1", level == 1 ? 0 : 1,
          () -> mill().step(level, -9999, 1, 0));
    }
    for (int level : new int[] {0, 61}) {
      checks.refuses("promise 9: the level " + level, Checks.ARGUMENT, () -> mill().step(level, 1, 2, 0));
    }
    int[][] wrong = {{10000, 1}, {-10000, 1}, {1, 0}, {1, 10000}};
    for (int[] row : wrong) {
      checks.refuses("promise 9: " + row[0] + " / " + row[1], Checks.ARGUMENT, () -> mill().step(7, row[0], row[1], 0));
    }
    int[][] lasts = {{5, 1, 0}, {0, 7, 0}, {1, 2, 1}, {-1, 9999, 2}, {4181, 6765, 18}, {-2584, 6765, 18}};
    for (int[] row : lasts) {
      String name = "promise 9: the steps of " + row[0] + " / " + row[1];
      checks.answers(name + ", the first", 1, () -> mill().step(59, row[0], row[1], 0));
      checks.answers(name + ", the last", true, () -> mill().step(59, row[0], row[1], row[2]) >= 0);
      checks.refuses(name + ", one more", Checks.BOUNDS, () -> mill().step(59, row[0], row[1], row[2] + 1));
      checks.refuses(name + ", before the first", Checks.BOUNDS, () -> mill().step(59, row[0], row[1], -1));
    }
  }

  /** 17 / 12 is 1, 2, 2, 2 with the denominators 1, 2, 5, 12; -7 / 5 is -2, 1, 1, 2 with 1, 1, 2, 5. */
  private static void signsOfSteps() {
    int[][] fractions = {{17, 12, 1, 0, 2, 1, 5, -2, 12, 5}, {-7, 5, 1, 0, 1, 1, 2, -1, 5, 2}};
    for (int[] row : fractions) {
      checks.answers("promise 8: steps(" + row[0] + ", " + row[1] + ")", 4, () -> mill().steps(row[0], row[1]));
      for (int i = 0; i < 4; i++) {
        for (int level : new int[] {1, 5, 7, 12, 60}) {
          int step = i;
          checks.answers("promise 9: step " + i + " of " + row[0] + " / " + row[1] + " at " + level,
              mill().coset(level, row[2 + 2 * i], row[3 + 2 * i]), () -> mill().step(level, row[0], row[1], step));
        }
      }
    }
    // 1 / 5 and -1 / 5 behind a 2: only the sign is another one.
    int due = mill().coset(7, 5, 5);
    checks.answers("promise 9: the even one has the other sign", due, () -> mill().step(7, 17, 12, 2));
    checks.answers("promise 9: the odd one has not", due, () -> mill().step(7, 17, 12, 3));
  }

  private static void discriminants() {
    int[][] known = {{-3, 1}, {-4, 1}, {-7, 1}, {-8, 1}, {-396, 6}, {-399, 16}, {-400, 4}};
    for (int[] row : known) {
      checks.answers("promise 26: forms(" + row[0] + ")", row[1], () -> mill().forms(row[0]));
      checks.answers("promise 27: formAt(" + row[0] + ", 0, a)", 1, () -> mill().formAt(row[0], 0, 'a'));
    }
    for (int discriminant : new int[] {-2, -1, 0, 1, 4, -401, -403, -404, -5, -6, -9, -10, -397, -398, MIN, MAX}) {
      checks.refuses("promise 26: forms(" + discriminant + ")", Checks.ARGUMENT, () -> mill().forms(discriminant));
      checks.refuses("promise 27: formAt(" + discriminant + ", 0, a)", Checks.ARGUMENT,
          () -> mill().formAt(discriminant, 0, 'a'));
      checks.refuses("promise 28: theta(" + discriminant + ", 0)", Checks.ARGUMENT,
          () -> mill().theta(discriminant, 0));
    }
  }

  /**
   * With b as great as a, only b above 0; with a as great as c, only b from 0 on; forms with a common divisor are left
   * out: (2, 2, 2) of -12, (4, 4, 4) of -48, (2, 0, 2) of -16, (2, 0, 4) and others of -32, (5, 5, 5) of -75.
   */
  private static void reducedForms() {
    int[][] all = {
      {-3, 1, 1, 1}, {-4, 1, 0, 1}, {-12, 1, 0, 3}, {-15, 1, 1, 4, 2, 1, 2}, {-16, 1, 0, 4},
      {-20, 1, 0, 5, 2, 2, 3}, {-23, 1, 1, 6, 2, -1, 3, 2, 1, 3}, {-32, 1, 0, 8, 3, 2, 3},
      {-35, 1, 1, 9, 3, 1, 3}, {-36, 1, 0, 9, 2, 2, 5}, {-48, 1, 0, 12, 3, 0, 4}, {-75, 1, 1, 19, 3, 3, 7},
      {-63, 1, 1, 16, 2, -1, 8, 2, 1, 8, 4, 1, 4}, {-400, 1, 0, 100, 4, 0, 25, 8, -4, 13, 8, 4, 13}
    };
    for (int[] row : all) {
      int discriminant = row[0];
      checks.answers("promise 26: forms(" + discriminant + ")", (row.length - 1) / 3, () -> mill().forms(discriminant));
      for (int i = 0; i < row.length - 1; i++) {
        int index = i / 3;
        char which = (char) ('a' + i % 3);
        checks.answers("promise 27: formAt(" + discriminant + ", " + index + ", " + which + ")", row[i + 1],
            () -> mill().formAt(discriminant, index, which));
      }
    }
  }

  private static void formIndices() {
    int[][] counts = {{-3, 1}, {-12, 1}, {-23, 3}, {-399, 16}, {-400, 4}};
    for (int[] row : counts) {
      for (char which : new char[] {'a', 'b', 'c'}) {
        checks.answers("promise 27: the last form of " + row[0] + ", " + which, true,
            () -> Math.abs(mill().formAt(row[0], row[1] - 1, which)) >= 0);
        for (int index : new int[] {-1, row[1], MIN, MAX}) {
          checks.refuses("promise 27: the form " + index + " of " + row[0], Checks.BOUNDS,
              () -> mill().formAt(row[0], index, which));
        }
      }
      for (char which : new char[] {'`', 'd', 'B', ' ', 0, 65535}) {
        checks.refuses("promise 27: the letter " + (int) which + " of " + row[0], Checks.ARGUMENT,
            () -> mill().formAt(row[0], 0, which));
      }
    }
  }

  private static void thetas() {
    Heckeworks other = new Heckeworks();
    int[][] inside = {{-3, 0, 3}, {-4, 0, 4}, {-59, 0, 59}, {-59, 2, 59}, {-60, 0, 60}, {-60, 1, 60}};
    for (int i = 0; i < inside.length; i++) {
      int series = i;
      int[] row = inside[i];
      String name = "promise 28: theta(" + row[0] + ", " + row[1] + ")";
      checks.answers(name, i, () -> other.theta(row[0], row[1]));
      checks.answers(name + ", weight", 1, () -> other.weight(series));
      checks.answers(name + ", level", row[2], () -> other.level(series));
      checks.answers(name + ", precision", 64, () -> other.precision(series));
      checks.answers(name + ", of 0 there is one pair", 1, () -> other.coefficient(series, 0));
    }
    int[][] outside = {{-63, 0}, {-63, 3}, {-64, 0}, {-400, 0}};
    for (int[] row : outside) {
      checks.refuses("promise 28: theta(" + row[0] + ", " + row[1] + ")", Checks.UNSUPPORTED,
          () -> other.theta(row[0], row[1]));
    }
    int[][] none = {{-3, 1}, {-3, -1}, {-59, 3}, {-60, 2}, {-63, 4}, {-400, 4}, {-60, MIN}, {-60, MAX}};
    for (int[] row : none) {
      checks.refuses("promise 28: theta(" + row[0] + ", " + row[1] + ")", Checks.BOUNDS,
          () -> other.theta(row[0], row[1]));
    }
    // Of x x + y y; then of x x + x y + 15 y y and 3 x x + x y + 5 y y, whose pairs are the farthest ones.
    other.theta(-4, 0);
    int[][] pairs = {
      {6, 1, 4}, {6, 3, 0}, {6, 49, 4}, {6, 50, 12}, {6, 61, 8}, {6, 63, 0}, {2, 59, 2}, {2, 63, 4}, {3, 59, 0},
      {3, 63, 4}
    };
    for (int[] row : pairs) {
      checks.answers("promise 28: series " + row[0] + " at " + row[1], row[2],
          () -> other.coefficient(row[0], row[1]));
    }
  }

  private static void weighedCounts() {
    // Without a form; with (1, 1, 1) and (1, 0, 1) and their multiples, alone and with others; at the ends.
    int[][] known = {
      {0, -1}, {1, 0}, {2, 0}, {3, 4}, {4, 6}, {5, 0}, {6, 0}, {7, 12}, {8, 12}, {9, 0}, {12, 16}, {16, 18}, {27, 16},
      {36, 30}, {48, 40}, {64, 42}, {75, 28}, {396, 144}, {397, 0}, {398, 0}, {399, 192}, {400, 90}
    };
    for (int[] row : known) {
      checks.answers("promise 29: weighed(" + row[0] + ")", row[1], () -> mill().weighed(row[0]));
    }
    for (int n : new int[] {-1, 401, MIN, MAX}) {
      checks.refuses("promise 29: weighed(" + n + ")", Checks.ARGUMENT, () -> mill().weighed(n));
    }
  }

  private static void traces() {
    // The weights without cusp forms, just behind them, the one with two, and the last one.
    long[][] known = {
      {2, 1, 0}, {2, 20, 0}, {4, 1, 0}, {10, 1, 0}, {10, 20, 0}, {12, 1, 1}, {12, 20, -7109760}, {14, 1, 0},
      {14, 20, 0},
      {16, 1, 1}, {16, 2, 216}, {18, 1, 1}, {20, 1, 1}, {22, 1, 1}, {24, 1, 2}, {24, 2, 1080}, {26, 1, 1}, {26, 2, -48},
      {26, 20, 24895338421900800L}
    };
    for (long[] row : known) {
      int weight = (int) row[0];
      int n = (int) row[1];
      checks.answers("promise 30: trace(" + weight + ", " + n + ")", row[2], () -> mill().trace(weight, n));
      checks.answers("promise 31: traceAnew(" + weight + ", " + n + ")", row[2], () -> mill().traceAnew(weight, n));
    }
    int[][] wrong = {
      {0, 1}, {1, 1}, {3, 1}, {11, 1}, {13, 1}, {25, 1}, {27, 1}, {28, 1}, {-2, 1}, {12, 0}, {12, 21}, {2, 0}, {26, 21},
      {MIN, 1}, {12, MIN}, {12, MAX}
    };
    for (int[] row : wrong) {
      checks.refuses("promise 30: trace(" + row[0] + ", " + row[1] + ")", Checks.ARGUMENT,
          () -> mill().trace(row[0], row[1]));
      checks.refuses("promise 31: traceAnew(" + row[0] + ", " + row[1] + ")", Checks.ARGUMENT,
          () -> mill().traceAnew(row[0], row[1]));
    }
  }

  private static int add(Heckeworks to, int[] numbers) {
    return to.curve(numbers[0], numbers[1], numbers[2], numbers[3], numbers[4]);
  }

  private static void curveNumbers() {
    for (int at = 0; at < 5; at++) {
      Heckeworks other = new Heckeworks();
      int curves = 0;
      for (int number : new int[] {-1000, -999, 999, 1000, 0, MIN, MAX}) {
        int[] numbers = {1, -1, 1, -1, 1};
        numbers[at] = number;
        String name = "promise 32: " + number + " at " + at;
        if (Math.abs((long) number) <= 999) {
          checks.answers(name, curves, () -> add(other, numbers));
          curves++;
        } else {
          checks.refuses(name, Checks.ARGUMENT, () -> add(other, numbers));
        }
      }
      int none = curves;
      checks.answers("promise 33: the last curve", true, () -> Math.abs(other.points(none - 1, 2)) <= 2);
      checks.refuses("promise 33: no curve behind it", Checks.BOUNDS, () -> other.points(none, 2));
    }
    oneNumberEach();
  }

  /** y y = x x x with one further term: what each of the five numbers does to the count. */
  private static void oneNumberEach() {
    int[][] known = {
      {0, 0, 0, 0, 0, 7, 0}, {1, 0, 0, 0, 0, 7, 1}, {0, 1, 0, 0, 0, 7, 1}, {0, -1, 0, 0, 0, 7, -1},
      {0, 0, 1, 0, 0, 7, -1}, {0, 0, 0, 1, 0, 5, 2}, {0, 0, 0, -1, 0, 5, -2}, {0, 0, 0, 0, 1, 7, -4},
      {0, 0, 0, 0, 2, 7, -1}, {0, 0, 1, 0, 0, 2, 0}, {1, 0, 0, 0, 1, 2, -1}, {1, 0, 0, 0, 0, 2, 1}
    };
    for (int[] row : known) {
      Heckeworks other = new Heckeworks();
      add(other, row);
      checks.answers("promise 33: " + java.util.Arrays.toString(row), row[6], () -> other.points(0, row[5]));
    }
  }

  private static void primes() {
    Heckeworks other = new Heckeworks();
    other.curve(0, -1, 1, -10, -20);
    // The coefficients of the form of the level 11 at all primes.
    int[] numbers = {
      -2, -1, 1, -2, 1, 4, -2, 0, -1, 0, 7, 3, -8, -6, 8, -6, 5, 12, -7, -3, 4, -10, -6, 15, -7
    };
    for (int i = 0; i < Mills.PRIMES.length; i++) {
      int p = Mills.PRIMES[i];
      checks.answers("promise 33: points(0, " + p + ")", numbers[i], () -> other.points(0, p));
      checks.answers("promise 34: isGood(0, " + p + ")", p != 11, () -> other.isGood(0, p));
    }
    boolean[] isPrime = new boolean[98];
    for (int p : Mills.PRIMES) {
      isPrime[p] = true;
    }
    for (int i = -3; i <= 110; i++) {
      int p = i;
      if (i < 0 || i > 97 || !isPrime[i]) {
        checks.refuses("promise 33: points(0, " + i + ")", Checks.ARGUMENT, () -> other.points(0, p));
        checks.refuses("promise 34: isGood(0, " + i + ")", Checks.ARGUMENT, () -> other.isGood(0, p));
      }
    }
  }

  /** A pair that solves the curve and only one of the two others divided, or both, at 2, 3 and a greater prime. */
  private static void goodOrNot() {
    int[][] known = {
      {0, 0, 0, 0, 0, 2, 0}, {0, 0, 0, 0, 0, 97, 0}, {0, 0, 0, -1, 0, 2, 0}, {0, 0, 0, -1, 0, 3, 1},
      {0, 0, 0, -1, 0, 97, 1}, {0, 0, 1, 0, 0, 2, 1}, {0, 0, 1, 0, 0, 3, 0}, {0, 0, 1, 0, 0, 5, 1},
      {1, 0, 0, 0, 0, 5, 0}, {0, 1, 0, 0, 0, 5, 0}, {0, 0, 0, 0, 1, 3, 0}, {0, 0, 0, 0, 1, 5, 1},
      {0, 0, 0, 0, 97, 97, 0}, {0, 0, 0, 0, 97, 89, 1}, {0, 0, 0, -3, 2, 7, 0}, {0, 0, 0, -3, 3, 5, 0},
      {0, 0, 0, -3, 3, 7, 1}, {1, 1, 1, -10, -10, 3, 0}, {1, 1, 1, -10, -10, 5, 0}, {1, 1, 1, -10, -10, 2, 1},
      {1, 0, 1, 4, -6, 2, 0}, {1, 0, 1, 4, -6, 7, 0}, {1, 0, 1, 4, -6, 3, 1}
    };
    for (int[] row : known) {
      Heckeworks other = new Heckeworks();
      add(other, row);
      checks.answers("promise 34: " + java.util.Arrays.toString(row), row[6] == 1, () -> other.isGood(0, row[5]));
    }
  }

  /**
   * Series that are 0 all over: at the primes that leave the rest 3 modulo 4 the curve y y = x x x - x has the number 0
   * too, at 2 it is not good, at 5 its number is -2; y y = x x x + 1 is bad at 2 and 3, has 0 at 5, and -4 at 7.
   */
  private static void partsByWhatIsTold() {
    int[][] known = {{12, 6, 0, 5}, {13, 5, 0, 0}, {8, 8, 1, 7}, {10, 7, 1, 0}, {1, 64, 0, 5}, {1, 64, 1, 7}};
    for (int[] row : known) {
      Heckeworks other = new Heckeworks();
      other.curve(0, 0, 0, -1, 0);
      other.curve(0, 0, 0, 0, 1);
      other.curve(0, 0, 0, 0, 0);
      other.eisenstein(4);
      other.operator(0, row[0]);
      other.sum(1, 1, -1);
      String name = "promise 35: a 0 told up to " + (row[1] - 1);
      checks.answers(name + ", precision", row[1], () -> other.precision(2));
      checks.answers(name + ", curve " + row[2], row[3], () -> other.parts(row[2], 2));
      checks.answers(name + ", a curve that is good nowhere", 0, () -> other.parts(2, 2));
      checks.answers(name + ", and a series that is not 0", 0, () -> other.parts(2, 0));
    }
  }

  /** The form of the level 15 with 1 more at 61, and with 1 more at 3 or at 15, where it does not count. */
  private static void partsAtTheLastPrime() {
    Heckeworks other = new Heckeworks();
    other.curve(1, 1, 1, -10, -10);
    Mills.tell(other, 1, 1, 3, 1, 5, 1, 15, 1);
    other.eta();
    checks.answers("promise 35: the form of the level 15", 0, () -> other.parts(0, 0));
    Mills.tell(other, 30, 24, 30, 24, 30, 4, 2, -24, 2, -24);
    other.eta();
    checks.answers("promise 35: one that begins at 61", 61, () -> firstPlace(other, 1));
    other.sum(0, 1, 1);
    checks.answers("promise 35: another one at 61 alone", 61, () -> other.parts(0, 2));
    other.sum(0, 1, -1);
    checks.answers("promise 35: less at 61", 61, () -> other.parts(0, 3));
    other.raise(0, 3);
    other.sum(0, 4, 7);
    checks.answers("promise 35: at 3 and its multiples alone", 0, () -> other.parts(0, 5));
    other.raise(0, 2);
    other.sum(0, 6, 1);
    checks.answers("promise 35: at 2", 2, () -> other.parts(0, 7));
    other.sum(2, 6, 1);
    checks.answers("promise 35: at 2 and at 61", 2, () -> other.parts(0, 8));
    other.operator(0, 1);
    checks.answers("promise 35: the operator 1 leaves it", 0, () -> other.parts(0, 9));
  }

  private static int firstPlace(Heckeworks other, int series) {
    int place = 0;
    while (place < 64 && other.coefficient(series, place) == 0) {
      place++;
    }
    return place;
  }
}
