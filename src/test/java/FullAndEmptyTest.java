/** What is empty and what is full: series, curves, factors and precisions, none, one, all but one, and all. */
final class FullAndEmptyTest {
  private static final int MIN = Integer.MIN_VALUE;
  private static final int MAX = Integer.MAX_VALUE;

  private static final Checks checks = new Checks();

  public static void main(String[] args) {
    nothing();
    nothingButSomeOfIt();
    sixteenSeries();
    eachMakesTheLastOne();
    sixCurves();
    eightFactors();
    leastPrecision();
    greatestPrecision();
    shares();
    fullOfAll();
    checks.finish();
  }

  /** Promise 1: all that a new mill answers. */
  private static void nothing() {
    Heckeworks mill = new Heckeworks();
    for (int series : new int[] {0, -1, 1, 15, 16, MIN, MAX}) {
      noSeries(mill, series);
    }
    for (int curve : new int[] {0, -1, 1, 5, 6, MIN, MAX}) {
      checks.refuses("promise 33: no curve " + curve, Checks.BOUNDS, () -> mill.points(curve, 2));
      checks.refuses("promise 34: no curve " + curve, Checks.BOUNDS, () -> mill.isGood(curve, 2));
    }
    emptyAnswers(mill);
    checks.refuses("promise 14: no factors", Checks.UNSUPPORTED, mill::eta);
    emptyAnswers(mill);
    checks.answers("promise 12: the first factor", 1, () -> mill.factor(1, 24));
    checks.answers("promise 14: the first series", 0, mill::eta);
    checks.answers("promise 32: the first curve", 0, () -> mill.curve(0, 0, 0, 0, 0));
    checks.answers("promise 36: one series", 1, mill::series);
  }

  private static void noSeries(Heckeworks mill, int series) {
    checks.refuses("promise 15: no series " + series, Checks.BOUNDS, () -> mill.product(series, series));
    checks.refuses("promise 16: no series " + series, Checks.BOUNDS, () -> mill.sum(series, series, 1));
    checks.refuses("promise 17: no series " + series, Checks.BOUNDS, () -> mill.raise(series, 1));
    checks.refuses("promise 18: no series " + series, Checks.BOUNDS, () -> mill.operator(series, 1));
    checks.refuses("promise 19: no series " + series, Checks.BOUNDS, () -> mill.weight(series));
    checks.refuses("promise 20: no series " + series, Checks.BOUNDS, () -> mill.level(series));
    checks.refuses("promise 21: no series " + series, Checks.BOUNDS, () -> mill.precision(series));
    checks.refuses("promise 22: no series " + series, Checks.BOUNDS, () -> mill.coefficient(series, 0));
    checks.refuses("promise 23: no series " + series, Checks.BOUNDS, () -> mill.bound(series, series));
    checks.refuses("promise 24: no series " + series, Checks.BOUNDS, () -> mill.isEqual(series, series));
    checks.refuses("promise 25: no series " + series, Checks.BOUNDS, () -> mill.isCongruent(series, series, 2));
    checks.refuses("promise 35: no series " + series, Checks.BOUNDS, () -> mill.parts(0, series));
  }

  private static void emptyAnswers(Heckeworks mill) {
    checks.answers("promise 13: without factors", true, mill::isWhole);
    checks.answers("promise 36: no series", 0, mill::series);
    checks.answers("promise 37: no series", 0, mill::allCoefficients);
    checks.refuses("promise 38: no series", Checks.ARITHMETIC, mill::toldShare);
    checks.answers("promise 41: no series", 0, mill::toldBits);
    checks.answers("promise 42: no series", true, mill::isSound);
  }

  /** Series without curves, curves without series, factors without both. */
  private static void nothingButSomeOfIt() {
    Heckeworks series = new Heckeworks();
    series.discriminant();
    checks.refuses("promise 35: no curve, but a series", Checks.BOUNDS, () -> series.parts(0, 0));
    Heckeworks curves = new Heckeworks();
    curves.curve(0, 0, 0, 0, 0);
    checks.refuses("promise 35: no series, but a curve", Checks.BOUNDS, () -> curves.parts(0, 0));
    emptyAnswers(curves);
    Heckeworks factors = Mills.told(1, 12, 2, 12);
    emptyAnswers(factors);
    checks.refuses("promise 14: it begins at one and a half", Checks.UNSUPPORTED, factors::eta);
    emptyAnswers(factors);
  }

  private static void sixteenSeries() {
    Heckeworks mill = new Heckeworks();
    for (int i = 0; i < 16; i++) {
      int due = i;
      checks.refuses("promise 19: not yet " + i, Checks.BOUNDS, () -> mill.weight(due));
      checks.answers("promise 10: the series " + i, due, () -> mill.eisenstein(weightInTurn(due)));
      checks.answers("promise 36: so many", i + 1, mill::series);
      checks.answers("promise 19: the series " + i, weightInTurn(due), () -> mill.weight(due));
    }
    seventeenth(mill);
    checks.same("promises 10 to 28: nothing has changed", Mills.shown(FullAndEmptyTest::sixteenTriedAgain),
        Mills.shown(FullAndEmptyTest::sixteen));
    checks.answers("promise 36: 16 series", 16, mill::series);
    checks.answers("promise 42: 16 series", true, mill::isSound);
  }

  private static Heckeworks sixteen() {
    Heckeworks mill = new Heckeworks();
    for (int i = 0; i < 16; i++) {
      mill.eisenstein(weightInTurn(i));
    }
    return mill;
  }

  private static Heckeworks sixteenTriedAgain() {
    Heckeworks mill = sixteen();
    seventeenth(mill);
    return mill;
  }

  private static void seventeenth(Heckeworks mill) {
    for (int i = 0; i < 3; i++) {
      checks.refuses("promise 10: a 17th", Checks.STATE, () -> mill.eisenstein(4));
      checks.refuses("promise 11: a 17th", Checks.STATE, mill::discriminant);
      checks.refuses("promise 15: a 17th", Checks.STATE, () -> mill.product(0, 15));
      checks.refuses("promise 16: a 17th", Checks.STATE, () -> mill.sum(15, 15, 1));
      checks.refuses("promise 17: a 17th", Checks.STATE, () -> mill.raise(15, 30));
      checks.refuses("promise 18: a 17th", Checks.STATE, () -> mill.operator(15, 63));
      checks.refuses("promise 28: a 17th", Checks.STATE, () -> mill.theta(-60, 1));
      checks.refuses("promise 19: none of it", Checks.BOUNDS, () -> mill.weight(16));
    }
  }

  /** The weights of Eisenstein's in turn. */
  private static int weightInTurn(int of) {
    int[] weights = {4, 6, 8, 10, 14};
    return weights[of % weights.length];
  }

  /** Every method that makes a series makes the 16th one, and none behind it. */
  private static void eachMakesTheLastOne() {
    for (int way = 0; way < 8; way++) {
      Heckeworks mill = new Heckeworks();
      for (int i = 0; i < 15; i++) {
        mill.discriminant();
      }
      Mills.tell(mill, 1, 2, 11, 2);
      int by = way;
      checks.answers("the 16th series, way " + way, 15, () -> make(mill, by));
      checks.answers("the 16th series, way " + way + ", precision", way == 6 ? 32 : 64, () -> mill.precision(15));
      if (way == 2) {
        Mills.tell(mill, 1, 24);
      }
      checks.refuses("a 17th series, way " + way, Checks.STATE, () -> make(mill, by));
      checks.answers("promise 36: 16 series, way " + way, 16, mill::series);
    }
  }

  private static int make(Heckeworks mill, int way) {
    switch (way) {
      case 0:
        return mill.eisenstein(14);
      case 1:
        return mill.discriminant();
      case 2:
        return mill.eta();
      case 3:
        return mill.product(0, 14);
      case 4:
        return mill.sum(14, 0, 3);
      case 5:
        return mill.raise(14, 30);
      case 6:
        return mill.operator(14, 2);
      default:
        return mill.theta(-60, 1);
    }
  }

  private static void sixCurves() {
    Heckeworks mill = new Heckeworks();
    mill.discriminant();
    for (int i = 0; i < 6; i++) {
      int number = i;
      checks.refuses("promise 33: not yet " + i, Checks.BOUNDS, () -> mill.points(number, 97));
      checks.refuses("promise 34: not yet " + i, Checks.BOUNDS, () -> mill.isGood(number, 97));
      checks.refuses("promise 35: not yet " + i, Checks.BOUNDS, () -> mill.parts(number, 0));
      checks.answers("promise 32: the curve " + i, i, () -> mill.curve(0, 0, 0, 0, number));
      checks.answers("promise 34: the curve " + i, number % 5 != 0, () -> mill.isGood(number, 5));
    }
    for (int i = 0; i < 3; i++) {
      checks.refuses("promise 32: a 7th curve", Checks.STATE, () -> mill.curve(0, 0, 0, 0, 7));
      checks.refuses("promise 33: a 7th curve", Checks.BOUNDS, () -> mill.points(6, 97));
      checks.refuses("promise 34: a 7th curve", Checks.BOUNDS, () -> mill.isGood(6, 97));
      checks.refuses("promise 35: a 7th curve", Checks.BOUNDS, () -> mill.parts(6, 0));
    }
    // The numbers at 7 of y y = x x x + a6.
    int[] due = {0, -4, -1, -5, 5, 1};
    for (int i = 0; i < 6; i++) {
      int number = i;
      checks.answers("promise 33: the curve " + i + " at 7", due[i], () -> mill.points(number, 7));
      checks.answers("promise 35: the curve " + i, i == 0 ? 0 : plainParts(i), () -> mill.parts(number, 0));
    }
  }

  private static int plainParts(int a6) {
    PlainMill plain = new PlainMill();
    plain.discriminant();
    plain.curve(0, 0, 0, 0, a6);
    return plain.parts(0, 0);
  }

  private static void eightFactors() {
    Heckeworks mill = new Heckeworks();
    int[] numbers = {1, 2, 3, 4, 6, 12, 5, 10};
    int[] powers = {2, -1, 2, -1, 2, -1, 2, -1};
    PlainMill plain = new PlainMill();
    for (int i = 0; i < 8; i++) {
      int at = i;
      checks.answers("promise 12: the factor " + i, i + 1, () -> mill.factor(numbers[at], powers[at]));
      plain.factor(numbers[i], powers[i]);
      checks.answers("promise 13: with " + (i + 1), plain.isWhole(), mill::isWhole);
    }
    checks.refuses("promise 12: a 9th", Checks.STATE, () -> mill.factor(1, 1));
    checks.answers("promise 13: with 8 still", plain.isWhole(), mill::isWhole);
    checks.refuses("promise 14: 8 that begin nowhere", Checks.UNSUPPORTED, mill::eta);
    checks.refuses("promise 12: a 9th behind it", Checks.STATE, () -> mill.factor(1, 1));
    Heckeworks last = Mills.told(1, 3, 1, 3, 1, 3, 1, 3, 1, 3, 1, 3, 1, 3);
    checks.refuses("promise 14: 7 that begin nowhere", Checks.UNSUPPORTED, last::eta);
    checks.answers("promise 12: the 8th", 8, () -> last.factor(1, 3));
    checks.refuses("promise 12: a 9th once more", Checks.STATE, () -> last.factor(1, 3));
    checks.answers("promise 14: 8", 0, last::eta);
    checks.answers("promise 14: the 8th counts", -24, () -> last.coefficient(0, 2));
    checks.answers("promise 12: the first of the next", 1, () -> last.factor(29, 24));
  }

  /** A series of the precision 1: what can be made of it, and what it tells. */
  private static void leastPrecision() {
    Heckeworks mill = new Heckeworks();
    mill.eisenstein(4);
    mill.operator(0, 63);
    mill.operator(1, 63);
    checks.answers("promise 21: the precision 1", 1, () -> mill.precision(2));
    // The sums of the cubes of the divisors of 63, squared.
    long due = 260408L * 260408L;
    checks.answers("promise 22: at 0", due, () -> mill.coefficient(2, 0));
    checks.refuses("promise 22: at 1", Checks.MISSING, () -> mill.coefficient(2, 1));
    for (int n : new int[] {1, 2, 63}) {
      int next = mill.series();
      checks.answers("promise 18: the operator " + n, next, () -> mill.operator(2, n));
      checks.answers("promise 18: of the precision 1", 1, () -> mill.precision(next));
      checks.answers("promise 18: at 0", due * (n == 1 ? 1 : n == 2 ? 9 : 260408), () -> mill.coefficient(next, 0));
    }
    int product = mill.product(2, 0);
    checks.answers("promise 15: of the precision 1", 1, () -> mill.precision(product));
    int sum = mill.sum(0, 2, -1);
    checks.answers("promise 16: of the precision 1", 1, () -> mill.precision(sum));
    checks.answers("promise 16: at 0", 1 - due, () -> mill.coefficient(sum, 0));
    int raised = mill.raise(2, 2);
    checks.answers("promise 17: of the precision 2", 2, () -> mill.precision(raised));
    checks.answers("promise 17: at 1", 0, () -> mill.coefficient(raised, 1));
    checks.answers("promise 23: the bound 0", 0, () -> mill.bound(2, 0));
    checks.answers("promise 24: the bound 0", false, () -> mill.isEqual(2, 0));
    checks.answers("promise 24: the bound 0, with itself", true, () -> mill.isEqual(2, 2));
    checks.answers("promise 25: the bound 0, modulo 3", true, () -> mill.isCongruent(2, 0, 3));
    checks.answers("promise 25: the bound 0, modulo 2", false, () -> mill.isCongruent(2, 0, 2));
    mill.curve(0, -1, 1, -10, -20);
    checks.answers("promise 35: no prime is told", 0, () -> mill.parts(0, 2));
    checks.answers("promise 35: none of 2 either", 0, () -> mill.parts(0, 1));
  }

  private static void greatestPrecision() {
    Heckeworks mill = new Heckeworks();
    mill.eisenstein(4);
    mill.operator(0, 1);
    mill.raise(1, 1);
    mill.raise(1, 30);
    mill.product(1, 3);
    mill.sum(1, 3, 1);
    mill.theta(-60, 0);
    for (int i = 0; i < mill.series(); i++) {
      int series = i;
      checks.answers("promise 21: the precision 64 of " + i, 64, () -> mill.precision(series));
      checks.answers("promise 22: at 63 of " + i, true, () -> mill.coefficient(series, 63) >= 0);
      checks.refuses("promise 22: at 64 of " + i, Checks.MISSING, () -> mill.coefficient(series, 64));
    }
    checks.answers("promise 22: at 63", 240L * 260408L, () -> mill.coefficient(1, 63));
    checks.answers("promise 38: all are told", 1.0f, mill::toldShare);
    checks.answers("promise 41: all are told", 0x3F800000, mill::toldBits);
  }

  /** The least share that can be, and those of one more series each. */
  private static void shares() {
    Heckeworks mill = new Heckeworks();
    mill.discriminant();
    mill.operator(0, 63);
    mill.operator(1, 2);
    int told = 64 + 2 + 1;
    checks.answers("promise 38: of 3", (float) told / 192.0f, mill::toldShare);
    checks.answers("promise 41: of 3", Float.floatToIntBits((float) told / 192.0f), mill::toldBits);
    for (int i = 4; i <= 16; i++) {
      mill.sum(2, 0, i);
      told++;
      float due = (float) told / (float) (64 * i);
      checks.answers("promise 38: of " + i, due, mill::toldShare);
      checks.answers("promise 41: of " + i, Float.floatToIntBits(due), mill::toldBits);
    }
    checks.answers("promise 41: 80 of 1024, by hand", 0x3DA00000, mill::toldBits);
    Heckeworks half = new Heckeworks();
    half.discriminant();
    half.operator(0, 63);
    checks.answers("promise 38: 66 of 128", 0.515625f, half::toldShare);
    checks.answers("promise 41: 66 of 128", 0x3F040000, half::toldBits);
  }

  /** With all rows full, whatever needs no new one is answered as ever. */
  private static void fullOfAll() {
    Heckeworks mill = Mills.full();
    PlainMill plain = new PlainMill();
    checks.answers("promise 36: 16 series", 16, mill::series);
    checks.answers("promise 2: full", plain.index(60), () -> mill.index(60));
    checks.answers("promise 3: full", 143, () -> mill.coset(60, 30, 1));
    checks.answers("promise 8: full", 19, () -> mill.steps(4181, 6765));
    checks.answers("promise 26: full", 16, () -> mill.forms(-399));
    checks.answers("promise 29: full", 192, () -> mill.weighed(399));
    checks.answers("promise 30: full", 1080, () -> mill.trace(24, 2));
    checks.answers("promise 31: full", 1080, () -> mill.traceAnew(24, 2));
    checks.answers("promise 42: full", true, mill::isSound);
    checks.answers("promise 15: full, the first series stays", 240, () -> mill.coefficient(0, 1));
    checks.answers("promise 11: full, the last series stays", -24, () -> mill.coefficient(15, 2));
    checks.answers("promise 33: full, the first curve stays", -2, () -> mill.points(0, 2));
    checks.refuses("promise 12: full", Checks.STATE, () -> mill.factor(1, 1));
    checks.refuses("promise 14: full", Checks.STATE, mill::eta);
    checks.refuses("promise 32: full", Checks.STATE, () -> mill.curve(0, 0, 0, 0, 0));
    checks.answers("promise 36: 16 series still", 16, mill::series);
  }
}
