/** Promises 1, 36 to 38, 41 and 42. */
final class WholeTest {
  private static final Checks checks = new Checks();

  public static void main(String[] args) {
    newObject();
    counts();
    toldAlone();
    shares();
    wraps();
    sound();
    apart();
    checks.finish();
  }

  private static void newObject() {
    Heckeworks mill = new Heckeworks();
    checks.answers("promise 1: no series", 0, mill::series);
    checks.answers("promise 1: no coefficients", 0, mill::allCoefficients);
    checks.refuses("promise 1: no weight", Checks.BOUNDS, () -> mill.weight(0));
    checks.refuses("promise 1: no curve", Checks.BOUNDS, () -> mill.points(0, 2));
    checks.refuses("promise 1: no parts", Checks.BOUNDS, () -> mill.parts(0, 0));
    checks.answers("promise 1: whole", true, mill::isWhole);
    checks.refuses("promise 1: no factors", Checks.UNSUPPORTED, mill::eta);
    checks.refuses("promise 38: no series", Checks.ARITHMETIC, mill::toldShare);
    checks.answers("promise 41: no series", 0, mill::toldBits);
    checks.answers("promise 42: no series", true, mill::isSound);
  }

  private static void counts() {
    Heckeworks mill = new Heckeworks();
    mill.theta(-4, 0);
    checks.answers("promise 36: one", 1, mill::series);
    // How many points have a square of their distance below 64.
    checks.answers("promise 37: one", 193, mill::allCoefficients);
    mill.sum(0, 0, -2);
    checks.answers("promise 36: two", 2, mill::series);
    checks.answers("promise 37: two", 0, mill::allCoefficients);
    mill.operator(0, 63);
    checks.answers("promise 36: three", 3, mill::series);
    checks.answers("promise 37: what is not told does not count", mill.coefficient(2, 0) + mill.coefficient(2, 1),
        mill::allCoefficients);
    checks.refuses("promise 36: a call that throws", Checks.UNSUPPORTED, () -> mill.raise(0, 16));
    checks.answers("promise 36: a call that throws makes none", 3, mill::series);
  }

  /** Series of the precision 2, made of one that is told up to 63 and one that is told up to 1: 1 and 240 of E. */
  private static void toldAlone() {
    Heckeworks mill = new Heckeworks();
    mill.eisenstein(4);
    long total = 1;
    for (int n = 1; n < 64; n++) {
      total += mill.coefficient(0, n);
    }
    checks.answers("promise 37: all of E", total, mill::allCoefficients);
    mill.operator(0, 63);
    // The sum of the cubes of the divisors of 63 is 260408.
    total += 260408L * 241;
    checks.answers("promise 37: and the operator 63 of it", total, mill::allCoefficients);
    mill.sum(0, 1, 1);
    total += 260409L * 241;
    checks.answers("promise 37: and the sum of both", total, mill::allCoefficients);
    mill.sum(1, 0, -1);
    total += 260407L * 241;
    checks.answers("promise 37: and the other way round", total, mill::allCoefficients);
    mill.product(0, 1);
    total += 260408L * 481;
    checks.answers("promise 37: and the product of both", total, mill::allCoefficients);
    mill.product(1, 0);
    total += 260408L * 481;
    checks.answers("promise 37: and of both the other way round", total, mill::allCoefficients);
    mill.raise(2, 2);
    total += 260409L * 241;
    checks.answers("promise 37: and the sum at 2", total, mill::allCoefficients);
    mill.operator(2, 1);
    total += 260409L * 241;
    checks.answers("promise 37: and the operator 1 of the sum", total, mill::allCoefficients);
    checks.answers("promise 38: 64, six times 2, and 4 of 512", 80.0f / 512.0f, mill::toldShare);
    checks.answers("promise 41: 80 of 512", Float.floatToIntBits(0.15625f), mill::toldBits);
  }

  private static void shares() {
    Heckeworks mill = new Heckeworks();
    mill.eisenstein(4);
    checks.answers("promise 38: all", 1.0f, mill::toldShare);
    checks.answers("promise 41: all", Float.floatToIntBits(1.0f), mill::toldBits);
    mill.operator(0, 63);
    mill.operator(1, 2);
    float third = (float) 67 / (float) 192;
    checks.answers("promise 38: of three", third, mill::toldShare);
    checks.answers("promise 41: of three", Float.floatToIntBits(third), mill::toldBits);
    int told = 67;
    for (int n = 2; n <= 14; n++) {
      mill.operator(1 + n % 2, n);
      told += mill.precision(n + 1);
      float share = (float) told / (float) (64 * (n + 2));
      checks.answers("promise 38: of " + (n + 2), share, mill::toldShare);
      checks.answers("promise 41: of " + (n + 2), Float.floatToIntBits(share), mill::toldBits);
    }
  }

  private static void wraps() {
    Heckeworks mill = new Heckeworks();
    mill.theta(-4, 0);
    mill.sum(0, 0, Integer.MIN_VALUE);
    mill.sum(1, 1, Integer.MIN_VALUE);
    long factor = 1L - (1L << 31);
    checks.answers("promise 37: it wraps", 193 * (1 + factor + factor * factor), mill::allCoefficients);
    mill.sum(2, 2, Integer.MAX_VALUE);
    checks.answers("promise 37: it wraps further",
        193 * (1 + factor + factor * factor + (factor * factor << 31)), mill::allCoefficients);
  }

  private static void sound() {
    Heckeworks mill = new Heckeworks();
    int[] raised = {2, 3, 4, 5, 7, 9, 11, 13, 16, 19, 23, 25, 27, 29, 30};
    mill.eisenstein(4);
    for (int d : raised) {
      mill.raise(0, d);
      checks.answers("promise 42: with the level " + d, true, mill::isSound);
    }
  }

  /** Two objects share nothing. */
  private static void apart() {
    Heckeworks one = new Heckeworks();
    Heckeworks other = new Heckeworks();
    one.factor(1, 24);
    one.discriminant();
    one.curve(0, 0, 0, -1, 0);
    one.index(7);
    checks.answers("promise 1: another has no series", 0, other::series);
    checks.answers("promise 1: another has no factors", 1, () -> other.factor(2, 2));
    checks.answers("promise 1: another has no curves", 0, () -> other.curve(0, 0, 0, 0, 1));
    checks.answers("promise 1: one has its own", 2, () -> one.factor(1, 1));
  }
}
