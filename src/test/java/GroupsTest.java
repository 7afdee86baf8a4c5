/** Promises 2 to 7, 39 and 40. */
final class GroupsTest {
  private static final int[] WRONG_LEVELS = {0, -1, 61, 1000, Integer.MIN_VALUE, Integer.MAX_VALUE};

  private static final Checks checks = new Checks();
  private static final Supply supply = new Supply();
  private static final PlainMill plain = new PlainMill();

  public static void main(String[] args) {
    knownGroups();
    knownCosets();
    knownWidths();
    allLevels();
    allCosets();
    wrongLevels();
    wrongOthers();
    checks.finish();
  }

  private static Heckeworks mill() {
    return supply.mill();
  }

  /** Level, index, cusps, genus, from the tables of the groups. */
  private static void knownGroups() {
    int[][] known = {
      {1, 1, 1, 0}, {2, 3, 2, 0}, {3, 4, 2, 0}, {4, 6, 3, 0}, {7, 8, 2, 0}, {9, 12, 4, 0}, {11, 12, 2, 1},
      {13, 14, 2, 0}, {14, 24, 4, 1}, {22, 36, 4, 2}, {23, 24, 2, 2}, {25, 30, 6, 0}, {36, 72, 12, 1},
      {37, 38, 2, 2}, {41, 42, 2, 3}, {48, 96, 12, 3}, {49, 56, 8, 1}, {50, 90, 12, 2}, {59, 60, 2, 5},
      {60, 144, 12, 7}
    };
    for (int[] row : known) {
      int level = row[0];
      checks.answers("promise 2: index(" + level + ")", row[1], () -> mill().index(level));
      checks.answers("promise 4: cusps(" + level + ")", row[2], () -> mill().cusps(level));
      checks.answers("promise 6: genus(" + level + ")", row[3], () -> mill().genus(level));
      checks.answers("promise 7: genusAnew(" + level + ")", row[3], () -> mill().genusAnew(level));
      double mean = (double) row[1] / (double) row[2];
      checks.answers("promise 39: meanWidth(" + level + ")", mean, () -> mill().meanWidth(level));
      checks.answers("promise 40: widthBits(" + level + ")", Double.doubleToLongBits(mean),
          () -> mill().widthBits(level));
    }
  }

  private static void knownCosets() {
    int[][] known = {
      {11, 0, 1, 0}, {11, 0, 10, 0}, {11, 1, 0, 1}, {11, 1, 10, 11}, {11, 2, 0, 1}, {11, 3, 5, 10}, {11, -8, 16, 10},
      {1, 0, 0, 0}, {1, 5, -9, 0}, {4, 0, 3, 0}, {4, 1, 3, 4}, {4, 2, 1, 5}, {4, 2, 3, 5}, {4, 6, -1, 5},
      {60, Integer.MIN_VALUE, 1, 0}
    };
    for (int[] row : known) {
      checks.answers("promise 3: coset(" + row[0] + ", " + row[1] + ", " + row[2] + ")",
          row[0] == 60 ? plain.coset(60, row[1], row[2]) : row[3], () -> mill().coset(row[0], row[1], row[2]));
    }
  }

  private static void knownWidths() {
    int[][] known = {{1, 1}, {4, 1, 4, 1}, {6, 1, 6, 3, 2}, {11, 1, 11}, {9, 1, 9, 1, 1}};
    for (int[] row : known) {
      for (int cusp = 0; cusp < row.length - 1; cusp++) {
        int at = cusp;
        checks.answers("promise 5: width(" + row[0] + ", " + cusp + ")", row[cusp + 1], () -> mill().width(row[0], at));
      }
    }
  }

  private static void allLevels() {
    for (int n = 60; n >= 1; n--) {
      int level = n;
      checks.answers("promise 2: index " + n, plain.index(n), () -> mill().index(level));
      checks.answers("promise 4: cusps " + n, plain.cusps(n), () -> mill().cusps(level));
      checks.answers("promise 6: genus " + n, plain.genus(n), () -> mill().genus(level));
      checks.answers("promise 7: genusAnew " + n, plain.genus(n), () -> mill().genusAnew(level));
      checks.answers("promise 39: meanWidth " + n, plain.meanWidth(n), () -> mill().meanWidth(level));
      checks.answers("promise 40: widthBits " + n, plain.widthBits(n), () -> mill().widthBits(level));
      int total = 0;
      for (int cusp = 0; cusp < plain.cusps(n); cusp++) {
        int at = cusp;
        checks.answers("promise 5: width " + n + " " + cusp, plain.width(n, cusp), () -> mill().width(level, at));
        total += mill().width(level, at);
      }
      checks.same("promise 5: widths of " + n + " make up the index", total, mill().index(level));
    }
  }

  private static void allCosets() {
    for (int level : new int[] {1, 2, 12, 27, 30, 53, 60}) {
      StringBuilder got = new StringBuilder();
      StringBuilder due = new StringBuilder();
      for (int c = -1; c < level; c++) {
        for (int d = -1; d < level; d++) {
          int one = c;
          int two = d;
          got.append(Checks.outcome(() -> mill().coset(level, one, two))).append(' ');
          due.append(Checks.outcome(() -> plain.coset(level, one, two))).append(' ');
        }
      }
      checks.same("promise 3: all cosets of " + level, got, due);
    }
  }

  private static void wrongLevels() {
    for (int level : WRONG_LEVELS) {
      checks.refuses("promise 2: index(" + level + ")", Checks.ARGUMENT, () -> mill().index(level));
      checks.refuses("promise 3: coset(" + level + ", 2, 2)", Checks.ARGUMENT, () -> mill().coset(level, 2, 2));
      checks.refuses("promise 4: cusps(" + level + ")", Checks.ARGUMENT, () -> mill().cusps(level));
      checks.refuses("promise 5: width(" + level + ", -1)", Checks.ARGUMENT, () -> mill().width(level, -1));
      checks.refuses("promise 6: genus(" + level + ")", Checks.ARGUMENT, () -> mill().genus(level));
      checks.refuses("promise 7: genusAnew(" + level + ")", Checks.ARGUMENT, () -> mill().genusAnew(level));
      checks.refuses("promise 39: meanWidth(" + level + ")", Checks.ARGUMENT, () -> mill().meanWidth(level));
      checks.refuses("promise 40: widthBits(" + level + ")", Checks.ARGUMENT, () -> mill().widthBits(level));
    }
  }

  private static void wrongOthers() {
    int[][] pairs = {{11, 0, 0}, {11, 22, 11}, {12, 2, 4}, {12, 3, 9}, {4, 2, 2}, {60, 30, 15}, {2, -2, 4}};
    for (int[] pair : pairs) {
      checks.refuses("promise 3: coset(" + pair[0] + ", " + pair[1] + ", " + pair[2] + ")", Checks.UNSUPPORTED,
          () -> mill().coset(pair[0], pair[1], pair[2]));
    }
    int[][] cusps = {{4, 3}, {4, -1}, {1, 1}, {36, 12}, {11, Integer.MIN_VALUE}, {11, Integer.MAX_VALUE}};
    for (int[] cusp : cusps) {
      checks.refuses("promise 5: width(" + cusp[0] + ", " + cusp[1] + ")", Checks.BOUNDS,
          () -> mill().width(cusp[0], cusp[1]));
    }
  }
}
