/** Promises 32 to 35. */
final class CurvesTest {
  private static final int[] PRIMES = {
    2, 3, 5, 7, 11, 13, 17, 19, 23, 29, 31, 37, 41, 43, 47, 53, 59, 61, 67, 71, 73, 79, 83, 89, 97
  };
  private static final int[][] CURVES = {
    {0, -1, 1, -10, -20}, {0, 0, 0, -1, 0}, {0, 0, 0, 0, 0}, {1, 0, 1, 4, -6}, {999, -999, 999, -999, 999},
    {-999, 999, -999, 999, -999}, {1, 1, 1, -10, -10}, {0, 0, 1, -1, 0}, {0, 0, 0, 0, 1}, {1, 1, 0, 1, 1},
    {0, 1, 0, 0, 0}, {2, -1, -3, 17, 998}, {0, 0, 0, -3, 2}
  };

  private static final Checks checks = new Checks();

  public static void main(String[] args) {
    adding();
    known();
    allPrimes();
    wrong();
    parts();
    partsAtTheEdges();
    checks.finish();
  }

  private static int add(Heckeworks mill, int[] k) {
    return mill.curve(k[0], k[1], k[2], k[3], k[4]);
  }

  private static void adding() {
    Heckeworks mill = new Heckeworks();
    int[][] wrong = {
      {1000, 0, 0, 0, 0}, {0, -1000, 0, 0, 0}, {0, 0, 1000, 0, 0}, {0, 0, 0, -1000, 0}, {0, 0, 0, 0, 1000},
      {Integer.MIN_VALUE, 0, 0, 0, 0}, {0, 0, 0, 0, Integer.MAX_VALUE}
    };
    for (int i = 0; i < 6; i++) {
      for (int[] row : wrong) {
        checks.refuses("promise 32: " + java.util.Arrays.toString(row), Checks.ARGUMENT, () -> add(mill, row));
      }
      int at = i;
      checks.answers("promise 32: the curve " + i, i, () -> add(mill, CURVES[at]));
    }
    checks.refuses("promise 32: a 7th curve", Checks.STATE, () -> add(mill, CURVES[0]));
    checks.refuses("promise 32: its numbers come first", Checks.ARGUMENT, () -> add(mill, wrong[0]));
    checks.answers("promise 32: the curves stay", 1, () -> mill.points(0, 11));
  }

  private static void known() {
    Heckeworks mill = new Heckeworks();
    add(mill, CURVES[0]);
    add(mill, CURVES[1]);
    add(mill, CURVES[2]);
    int[][] numbers = {
      {0, 2, -2}, {0, 3, -1}, {0, 5, 1}, {0, 7, -2}, {0, 11, 1}, {0, 13, 4}, {0, 17, -2}, {0, 97, -7}, {1, 3, 0},
      {1, 5, -2}, {1, 7, 0}, {1, 13, 6}, {1, 2, 0}, {2, 2, 0}, {2, 5, 0}, {2, 97, 0}
    };
    for (int[] row : numbers) {
      checks.answers("promise 33: points(" + row[0] + ", " + row[1] + ")", row[2], () -> mill.points(row[0], row[1]));
    }
    int[][] good = {{0, 2, 1}, {0, 11, 0}, {0, 97, 1}, {1, 2, 0}, {1, 3, 1}, {2, 2, 0}, {2, 3, 0}, {2, 97, 0}};
    for (int[] row : good) {
      checks.answers("promise 34: isGood(" + row[0] + ", " + row[1] + ")", row[2] == 1,
          () -> mill.isGood(row[0], row[1]));
    }
  }

  private static void allPrimes() {
    for (int[] numbers : CURVES) {
      Heckeworks mill = new Heckeworks();
      PlainMill plain = new PlainMill();
      add(mill, numbers);
      plain.curve(numbers[0], numbers[1], numbers[2], numbers[3], numbers[4]);
      for (int p : PRIMES) {
        String what = java.util.Arrays.toString(numbers) + " at " + p;
        checks.answers("promise 33: " + what, plain.points(0, p), () -> mill.points(0, p));
        checks.answers("promise 34: " + what, plain.isGood(0, p), () -> mill.isGood(0, p));
      }
    }
    everySmallCurve();
  }

  /** Modulo 2 and 3 there are not many; each of them is counted. */
  private static void everySmallCurve() {
    for (int i = 0; i < 243; i++) {
      int[] k = {i % 3, i / 3 % 3, i / 9 % 3, i / 27 % 3, i / 81};
      Heckeworks mill = new Heckeworks();
      PlainMill plain = new PlainMill();
      add(mill, k);
      plain.curve(k[0], k[1], k[2], k[3], k[4]);
      for (int p : new int[] {2, 3, 5}) {
        checks.answers("promise 33: small " + i + " at " + p, plain.points(0, p), () -> mill.points(0, p));
        checks.answers("promise 34: small " + i + " at " + p, plain.isGood(0, p), () -> mill.isGood(0, p));
      }
    }
  }

  private static void wrong() {
    Heckeworks mill = new Heckeworks();
    add(mill, CURVES[0]);
    for (int p : new int[] {0, 1, -2, -3, 4, 9, 91, 95, 96, 98, 101, 103, Integer.MIN_VALUE, Integer.MAX_VALUE}) {
      checks.refuses("promise 33: points(0, " + p + ")", Checks.ARGUMENT, () -> mill.points(0, p));
      checks.refuses("promise 34: isGood(0, " + p + ")", Checks.ARGUMENT, () -> mill.isGood(0, p));
      checks.refuses("promise 33: points(1, " + p + ")", Checks.BOUNDS, () -> mill.points(1, p));
      checks.refuses("promise 34: isGood(-1, " + p + ")", Checks.BOUNDS, () -> mill.isGood(-1, p));
    }
    for (int curve : new int[] {-1, 1, 5, 6, Integer.MIN_VALUE, Integer.MAX_VALUE}) {
      checks.refuses("promise 33: points(" + curve + ", 2)", Checks.BOUNDS, () -> mill.points(curve, 2));
      checks.refuses("promise 34: isGood(" + curve + ", 2)", Checks.BOUNDS, () -> mill.isGood(curve, 2));
    }
  }

  private static void parts() {
    Heckeworks mill = new Heckeworks();
    mill.factor(1, 2);
    mill.factor(11, 2);
    mill.eta();
    mill.factor(4, 2);
    mill.factor(8, 2);
    mill.eta();
    add(mill, CURVES[0]);
    add(mill, CURVES[1]);
    add(mill, CURVES[8]);
    checks.answers("promise 35: the curve of the level 11", 0, () -> mill.parts(0, 0));
    checks.answers("promise 35: a curve of the level 32 and 11", 3, () -> mill.parts(1, 0));
    checks.answers("promise 35: a curve of the level 32", 0, () -> mill.parts(1, 1));
    checks.answers("promise 35: a curve of the level 36 and 32", 5, () -> mill.parts(2, 1));
    // Only at 61 another: a sum with what stands at 61 alone, and likewise at 11, where the curve is bad.
    Heckeworks other = new Heckeworks();
    add(other, CURVES[0]);
    other.factor(1, 2);
    other.factor(11, 2);
    other.eta();
    other.sum(0, 0, 1);
    checks.answers("promise 35: twice all", 2, () -> other.parts(0, 1));
    for (int curve : new int[] {-1, 3, 6, Integer.MIN_VALUE}) {
      checks.refuses("promise 35: parts(" + curve + ", 0)", Checks.BOUNDS, () -> mill.parts(curve, 0));
    }
    for (int series : new int[] {-1, 2, 16, Integer.MAX_VALUE}) {
      checks.refuses("promise 35: parts(0, " + series + ")", Checks.BOUNDS, () -> mill.parts(0, series));
    }
  }

  /** A series that is told up to 2 alone, and one up to 1. */
  private static void partsAtTheEdges() {
    Heckeworks mill = new Heckeworks();
    mill.factor(1, 2);
    mill.factor(11, 2);
    mill.eta();
    mill.operator(0, 29);
    mill.operator(0, 31);
    mill.operator(0, 32);
    add(mill, CURVES[0]);
    add(mill, CURVES[1]);
    checks.answers("promise 21: the precision 3", 3, () -> mill.precision(1));
    checks.answers("promise 21: the precision 3 again", 3, () -> mill.precision(2));
    checks.answers("promise 21: the precision 2", 2, () -> mill.precision(3));
    checks.answers("promise 35: a part at 2", mill.coefficient(1, 2) == -2 ? 0 : 2, () -> mill.parts(0, 1));
    checks.answers("promise 35: bad at 2 and 3 not told", 0, () -> mill.parts(1, 1));
    checks.answers("promise 35: 2 not told", 0, () -> mill.parts(0, 3));
  }
}
