/** Promises 8 and 9. */
final class SymbolsTest {
  private static final Checks checks = new Checks();
  private static final Supply supply = new Supply();
  private static final PlainMill plain = new PlainMill();

  public static void main(String[] args) {
    knownSteps();
    manyFractions();
    wrongNumbers();
    checks.finish();
  }

  private static Heckeworks mill() {
    return supply.mill();
  }

  private static void knownSteps() {
    int[][] known = {
      {355, 113, 3}, {-7, 3, 3}, {4, 2, 1}, {0, 1, 1}, {0, 9999, 1}, {1, 2, 2}, {-1, 2, 2}, {9999, 1, 1}, {-9999, 1, 1},
      {-9999, 9999, 1}, {1, 9999, 2}, {4181, 6765, 19}, {6765, 4181, 18}, {-4181, 6765, 18}, {9998, 9999, 3}
    };
    for (int[] row : known) {
      checks.answers("promise 8: steps(" + row[0] + ", " + row[1] + ")", row[2], () -> mill().steps(row[0], row[1]));
    }
    // 355 / 113 is 3, 7, 16 with the denominators 1, 7, 113.
    int[] cosets = {1, 9, 6};
    for (int i = 0; i < cosets.length; i++) {
      int step = i;
      checks.answers("promise 9: step(11, 355, 113, " + i + ")", cosets[i], () -> mill().step(11, 355, 113, step));
    }
    // The first step's pair is (1, 0), that of the second (the second quotient, 1).
    checks.answers("promise 9: step(5, 1, 2, 0)", 1, () -> mill().step(5, 1, 2, 0));
    checks.answers("promise 9: step(5, 1, 2, 1)", mill().coset(5, 2, 1), () -> mill().step(5, 1, 2, 1));
    checks.answers("promise 9: step(7, 3, 8, 2)", mill().coset(7, 3, -2), () -> mill().step(7, 3, 8, 2));
    checks.answers("promise 9: step(1, -9999, 1, 0)", 0, () -> mill().step(1, -9999, 1, 0));
  }

  private static void manyFractions() {
    for (int b = 1; b <= 9999; b = b * 3 / 2 + 1) {
      for (int a = -9999; a <= 9999; a += 997) {
        int above = a;
        int below = b;
        int level = 1 + (a + b + 9999) % 60;
        StringBuilder got = new StringBuilder();
        StringBuilder due = new StringBuilder();
        for (int i = -1; i <= plain.steps(a, b); i++) {
          int step = i;
          got.append(Checks.outcome(() -> mill().step(level, above, below, step))).append(' ');
          due.append(Checks.outcome(() -> plain.step(level, above, below, step))).append(' ');
        }
        checks.same("promise 9: steps of " + a + " / " + b + " at the level " + level, got, due);
        checks.answers("promise 8: steps(" + a + ", " + b + ")", plain.steps(a, b), () -> mill().steps(above, below));
      }
    }
  }

  private static void wrongNumbers() {
    int[][] wrong = {
      {10000, 1}, {-10000, 1}, {1, 0}, {1, -1}, {1, 10000}, {Integer.MIN_VALUE, 1}, {1, Integer.MIN_VALUE},
      {Integer.MAX_VALUE, Integer.MAX_VALUE}
    };
    for (int[] row : wrong) {
      checks.refuses("promise 8: steps(" + row[0] + ", " + row[1] + ")", Checks.ARGUMENT,
          () -> mill().steps(row[0], row[1]));
      checks.refuses("promise 9: step(5, " + row[0] + ", " + row[1] + ", -1)", Checks.ARGUMENT,
          () -> mill().step(5, row[0], row[1], -1));
    }
    checks.refuses("promise 9: step(0, 1, 2, 9)", Checks.ARGUMENT, () -> mill().step(0, 1, 2, 9));
    checks.refuses("promise 9: step(61, 1, 2, 0)", Checks.ARGUMENT, () -> mill().step(61, 1, 2, 0));
    for (int step : new int[] {-1, 2, 32, Integer.MIN_VALUE, Integer.MAX_VALUE}) {
      checks.refuses("promise 9: step(5, 1, 2, " + step + ")", Checks.BOUNDS, () -> mill().step(5, 1, 2, step));
    }
  }
}
