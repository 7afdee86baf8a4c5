/** Promises 26 to 29. */
final class FormsTest {
  private static final Checks checks = new Checks();
  private static final PlainMill plain = new PlainMill();
  private static final Supply supply = new Supply();

  public static void main(String[] args) {
    knownForms();
    allDiscriminants();
    thetas();
    wrongDiscriminants();
    wrongForms();
    weighedCounts();
    sixteen();
    checks.finish();
  }

  private static void knownForms() {
    Heckeworks mill = new Heckeworks();
    int[][] known = {
      {-3, 1}, {-4, 1}, {-7, 1}, {-8, 1}, {-11, 1}, {-12, 1}, {-15, 2}, {-16, 1}, {-20, 2}, {-23, 3}, {-27, 1},
      {-28, 1}, {-47, 5}, {-71, 7}, {-84, 4}, {-163, 1}, {-199, 9}, {-359, 19}, {-399, 16}, {-400, 4}
    };
    for (int[] row : known) {
      checks.answers("promise 26: forms(" + row[0] + ")", row[1], () -> mill.forms(row[0]));
    }
    int[][] numbers = {
      {-3, 0, 1, 1, 1}, {-4, 0, 1, 0, 1}, {-23, 0, 1, 1, 6}, {-23, 1, 2, -1, 3}, {-23, 2, 2, 1, 3}, {-20, 0, 1, 0, 5},
      {-20, 1, 2, 2, 3}, {-15, 1, 2, 1, 2}, {-12, 0, 1, 0, 3}, {-47, 3, 3, -1, 4}, {-47, 4, 3, 1, 4},
      {-400, 1, 4, 0, 25}, {-400, 2, 8, -4, 13}, {-400, 3, 8, 4, 13}
    };
    for (int[] row : numbers) {
      for (int i = 0; i < 3; i++) {
        char which = (char) ('a' + i);
        checks.answers("promise 27: formAt(" + row[0] + ", " + row[1] + ", " + which + ")", row[2 + i],
            () -> mill.formAt(row[0], row[1], which));
      }
    }
  }

  private static void allDiscriminants() {
    for (int discriminant = -405; discriminant <= 5; discriminant++) {
      int of = discriminant;
      checks.answers("promise 26: forms(" + of + ")", Checks.outcome(() -> plain.forms(of)),
          () -> supply.mill().forms(of));
      StringBuilder got = new StringBuilder();
      StringBuilder due = new StringBuilder();
      for (int i = -1; i < 21; i++) {
        for (char letter = 'a'; letter <= 'c'; letter++) {
          int index = i;
          char which = letter;
          got.append(Checks.outcome(() -> supply.mill().formAt(of, index, which))).append(' ');
          due.append(Checks.outcome(() -> plain.formAt(of, index, which))).append(' ');
        }
      }
      checks.same("promise 27: all forms of " + of, got, due);
    }
  }

  private static void thetas() {
    Heckeworks mill = new Heckeworks();
    checks.answers("promise 28: theta(-3, 0)", 0, () -> mill.theta(-3, 0));
    checks.answers("promise 28: its weight", 1, () -> mill.weight(0));
    checks.answers("promise 28: its level", 3, () -> mill.level(0));
    checks.answers("promise 28: its precision", 64, () -> mill.precision(0));
    long[] row = {1, 6, 0, 6, 6, 0, 0, 12, 0, 6, 0, 0, 6, 12};
    for (int i = 0; i < row.length; i++) {
      int n = i;
      checks.answers("promise 28: theta(-3, 0) at " + i, row[i], () -> mill.coefficient(0, n));
    }
    checks.answers("promise 28: theta(-60, 0)", 1, () -> mill.theta(-60, 0));
    checks.answers("promise 28: theta(-60, 0) at 60", 2, () -> mill.coefficient(1, 60));
    checks.answers("promise 28: theta(-60, 0) at 63", 0, () -> mill.coefficient(1, 63));
    checks.answers("promise 28: its level", 60, () -> mill.level(1));
    for (int discriminant = -3; discriminant >= -60; discriminant--) {
      for (int index = 0; Math.floorMod(discriminant, 4) < 2 && index < plain.forms(discriminant); index++) {
        oneTheta(discriminant, index);
      }
    }
  }

  private static void oneTheta(int discriminant, int index) {
    Heckeworks mill = new Heckeworks();
    PlainMill other = new PlainMill();
    mill.theta(discriminant, index);
    other.theta(discriminant, index);
    StringBuilder got = new StringBuilder();
    StringBuilder due = new StringBuilder();
    for (int n = 0; n < 64; n++) {
      got.append(mill.coefficient(0, n)).append(' ');
      due.append(other.coefficient(0, n)).append(' ');
    }
    checks.same("promise 28: all of theta(" + discriminant + ", " + index + ")", got, due);
  }

  private static void wrongDiscriminants() {
    Heckeworks mill = new Heckeworks();
    int[] wrong = {-401, -404, -2, -1, 0, 1, 4, -5, -6, -9, -10, -398, Integer.MIN_VALUE, Integer.MAX_VALUE};
    for (int discriminant : wrong) {
      checks.refuses("promise 26: forms(" + discriminant + ")", Checks.ARGUMENT, () -> mill.forms(discriminant));
      checks.refuses("promise 27: formAt(" + discriminant + ", -1, a)", Checks.ARGUMENT,
          () -> mill.formAt(discriminant, -1, 'a'));
      checks.refuses("promise 28: theta(" + discriminant + ", -1)", Checks.ARGUMENT,
          () -> mill.theta(discriminant, -1));
    }
    checks.answers("promise 28: nothing is made", 0, mill::series);
  }

  private static void wrongForms() {
    Heckeworks mill = new Heckeworks();
    for (char which : new char[] {'d', 'A', '`', 0, 255, (char) 65535}) {
      checks.refuses("promise 27: the letter " + (int) which, Checks.ARGUMENT, () -> mill.formAt(-23, 0, which));
      checks.refuses("promise 27: the letter comes first " + (int) which, Checks.ARGUMENT,
          () -> mill.formAt(-23, 3, which));
    }
    for (int index : new int[] {-1, 3, 132, Integer.MIN_VALUE, Integer.MAX_VALUE}) {
      checks.refuses("promise 27: formAt(-23, " + index + ", c)", Checks.BOUNDS, () -> mill.formAt(-23, index, 'c'));
      checks.refuses("promise 28: theta(-23, " + index + ")", Checks.BOUNDS, () -> mill.theta(-23, index));
    }
    checks.refuses("promise 28: the index comes before the level", Checks.BOUNDS, () -> mill.theta(-199, 9));
    checks.refuses("promise 27: of a primitive one and another", Checks.BOUNDS, () -> mill.formAt(-12, 1, 'a'));
    checks.refuses("promise 28: theta(-63, 0)", Checks.UNSUPPORTED, () -> mill.theta(-63, 0));
    checks.refuses("promise 28: theta(-400, 3)", Checks.UNSUPPORTED, () -> mill.theta(-400, 3));
    checks.answers("promise 28: nothing is made", 0, mill::series);
  }

  private static void weighedCounts() {
    Heckeworks mill = new Heckeworks();
    int[][] known = {
      {0, -1}, {1, 0}, {2, 0}, {3, 4}, {4, 6}, {5, 0}, {7, 12}, {8, 12}, {11, 12}, {12, 16}, {15, 24}, {16, 18},
      {20, 24}, {23, 36}, {27, 16}, {28, 24}, {36, 30}, {48, 40}, {163, 12}, {398, 0}, {399, 192}, {400, 90}
    };
    for (int[] row : known) {
      checks.answers("promise 29: weighed(" + row[0] + ")", row[1], () -> mill.weighed(row[0]));
    }
    for (int i = 400; i >= 0; i--) {
      int n = i;
      checks.answers("promise 29: weighed(" + n + ")", plain.weighed(n), () -> mill.weighed(n));
    }
    for (int n : new int[] {-1, 401, Integer.MIN_VALUE, Integer.MAX_VALUE}) {
      checks.refuses("promise 29: weighed(" + n + ")", Checks.ARGUMENT, () -> mill.weighed(n));
    }
    mill.weighed(12);
    checks.answers("promise 26: forms behind a count of all", 1, () -> mill.forms(-12));
  }

  private static void sixteen() {
    Heckeworks mill = new Heckeworks();
    for (int i = 0; i < 16; i++) {
      int due = i;
      checks.answers("promise 28: the series " + i, due, () -> mill.theta(-4, 0));
    }
    checks.refuses("promise 28: a 17th series", Checks.STATE, () -> mill.theta(-4, 0));
    checks.refuses("promise 28: the level comes first", Checks.UNSUPPORTED, () -> mill.theta(-64, 0));
    checks.refuses("promise 28: the index comes first", Checks.BOUNDS, () -> mill.theta(-64, 9));
    checks.refuses("promise 28: the discriminant comes first", Checks.ARGUMENT, () -> mill.theta(-401, 9));
    checks.answers("promise 36: 16 series", 16, mill::series);
  }
}
