/** Promises 30 and 31. */
final class TracesTest {
  private static final Checks checks = new Checks();
  private static final Supply supply = new Supply();
  private static final PlainMill plain = new PlainMill();

  public static void main(String[] args) {
    known();
    all();
    wrong();
    checks.finish();
  }

  private static Heckeworks mill() {
    return supply.mill();
  }

  private static void known() {
    long[][] known = {
      {12, 1, 1}, {12, 2, -24}, {12, 3, 252}, {12, 4, -1472}, {12, 20, -7109760}, {16, 2, 216},
      {18, 2, -528}, {20, 2, 456}, {22, 2, -288}, {24, 1, 2}, {24, 2, 1080}, {24, 3, 339480}, {26, 2, -48},
      {26, 20, 24895338421900800L}, {2, 5, 0}, {4, 20, 0}, {6, 4, 0}, {8, 9, 0}, {10, 16, 0}, {14, 3, 0}
    };
    for (long[] row : known) {
      int weight = (int) row[0];
      int n = (int) row[1];
      checks.answers("promise 30: trace(" + weight + ", " + n + ")", row[2], () -> mill().trace(weight, n));
      checks.answers("promise 31: traceAnew(" + weight + ", " + n + ")", row[2], () -> mill().traceAnew(weight, n));
    }
  }

  private static void all() {
    for (int k = 26; k >= 2; k -= 2) {
      for (int i = 1; i <= 20; i++) {
        int weight = k;
        int n = i;
        checks.answers("promise 30: trace(" + k + ", " + n + ")", plain.trace(k, n), () -> mill().trace(weight, n));
        checks.answers("promise 31: traceAnew(" + k + ", " + n + ")", plain.traceAnew(k, n),
            () -> mill().traceAnew(weight, n));
        checks.answers("promise 31: the same as promise 30, " + k + ", " + n, mill().trace(weight, n),
            () -> mill().traceAnew(weight, n));
      }
    }
  }

  private static void wrong() {
    int[][] wrong = {
      {0, 1}, {1, 1}, {3, 1}, {25, 1}, {27, 1}, {28, 1}, {-2, 1}, {12, 0}, {12, -1}, {12, 21}, {28, 21},
      {Integer.MIN_VALUE, 1}, {12, Integer.MIN_VALUE}, {Integer.MAX_VALUE, Integer.MAX_VALUE}
    };
    for (int[] row : wrong) {
      checks.refuses("promise 30: trace(" + row[0] + ", " + row[1] + ")", Checks.ARGUMENT,
          () -> mill().trace(row[0], row[1]));
      checks.refuses("promise 31: traceAnew(" + row[0] + ", " + row[1] + ")", Checks.ARGUMENT,
          () -> mill().traceAnew(row[0], row[1]));
    }
  }
}
