import java.math.BigInteger;
import java.util.ArrayList;
import java.util.List;

/** All numbers are longs that wrap: what leaves them, just before it does and behind, in each call that reckons. */
final class WrapsTest {
  private static final int MIN = Integer.MIN_VALUE;
  private static final int MAX = Integer.MAX_VALUE;

  private static final Checks checks = new Checks();

  public static void main(String[] args) {
    eisensteins();
    sums();
    products();
    operators();
    raises();
    quotients();
    totals();
    compared();
    parts();
    longTraces();
    checks.finish();
  }

  private static BigInteger big(long number) {
    return BigInteger.valueOf(number);
  }

  /** Of the weight 14 at 63 the power 13 of 63 alone is above 2 to the power 77; at 20 nothing wraps yet. */
  private static void eisensteins() {
    Heckeworks mill = new Heckeworks();
    int[][] known = {{4, 240}, {6, -504}, {8, 480}, {10, -264}, {14, -24}};
    int wrapped = 0;
    for (int i = 0; i < known.length; i++) {
      int series = i;
      mill.eisenstein(known[i][0]);
      for (int n = 1; n < 64; n++) {
        BigInteger total = BigInteger.ZERO;
        for (int d = 1; d <= n; d++) {
          total = n % d == 0 ? total.add(big(d).pow(known[i][0] - 1)) : total;
        }
        BigInteger due = total.multiply(big(known[i][1]));
        wrapped += due.bitLength() > 63 ? 1 : 0;
        int at = n;
        checks.answers("promise 10: the weight " + known[i][0] + " at " + n, due.longValue(),
            () -> mill.coefficient(series, at));
      }
    }
    checks.same("promise 10: some have wrapped", wrapped > 30, true);
  }

  /** A series of the weight 12 with 1 at 1, -24 at 2 and 252 at 3, times what is told by factors of 31 bits. */
  private static void sums() {
    Heckeworks mill = new Heckeworks();
    mill.discriminant();
    mill.sum(0, 0, -1);
    mill.sum(1, 0, MIN);
    mill.sum(1, 2, MIN);
    checks.answers("promise 16: 2 to the power 62", 1L << 62, () -> mill.coefficient(3, 1));
    mill.sum(3, 3, 1);
    checks.answers("promise 16: 2 to the power 63 is the least", Long.MIN_VALUE, () -> mill.coefficient(4, 1));
    mill.sum(4, 0, -1);
    checks.answers("promise 16: less 1 is the greatest", Long.MAX_VALUE, () -> mill.coefficient(5, 1));
    mill.sum(5, 0, 1);
    checks.answers("promise 16: and 1 the least again", Long.MIN_VALUE, () -> mill.coefficient(6, 1));
    mill.sum(4, 4, 1);
    checks.answers("promise 16: 2 to the power 64 is 0", 0, () -> mill.coefficient(7, 1));
    mill.sum(1, 5, MAX);
    checks.answers("promise 16: times the greatest int", Long.MAX_VALUE * MAX, () -> mill.coefficient(8, 1));
    checks.answers("promise 16: wraps at 2 too",
        big(1L << 63).negate().subtract(BigInteger.ONE).multiply(big(-24)).longValue(), () -> mill.coefficient(5, 2));
    mill.sum(1, 4, MIN);
    checks.answers("promise 16: the least times the least int", 0, () -> mill.coefficient(9, 1));
    mill.sum(1, 4, -1);
    checks.answers("promise 16: less the least is the least", Long.MIN_VALUE, () -> mill.coefficient(10, 1));
  }

  private static void products() {
    Heckeworks mill = new Heckeworks();
    mill.eisenstein(14);
    mill.eisenstein(10);
    List<long[]> rows = new ArrayList<>();
    rows.add(Mills.row(mill, 0));
    rows.add(Mills.row(mill, 1));
    int[][] pairs = {{0, 0}, {0, 1}, {1, 0}, {2, 3}, {2, 2}};
    int wrapped = 0;
    for (int[] pair : pairs) {
      int due = mill.series();
      checks.answers("promise 15: product(" + pair[0] + ", " + pair[1] + ")", due,
          () -> mill.product(pair[0], pair[1]));
      rows.add(Mills.row(mill, due));
      for (int n = 0; n < 64; n++) {
        BigInteger total = BigInteger.ZERO;
        for (int i = 0; i <= n; i++) {
          total = total.add(big(rows.get(pair[0])[i]).multiply(big(rows.get(pair[1])[n - i])));
        }
        wrapped += total.bitLength() > 63 ? 1 : 0;
        checks.same("promise 15: product(" + pair[0] + ", " + pair[1] + ") at " + n, rows.get(due)[n],
            total.longValue());
      }
    }
    checks.same("promise 15: some have wrapped", wrapped > 100, true);
  }

  /** Powers of divisors up to the power 59 of 63. */
  private static void operators() {
    Heckeworks mill = new Heckeworks();
    mill.discriminant();
    mill.product(0, 0);
    mill.product(1, 1);
    mill.product(2, 0);
    mill.eisenstein(14);
    mill.product(4, 1);
    for (int series : new int[] {0, 3, 5}) {
      long[] row = Mills.row(mill, series);
      int weight = mill.weight(series);
      for (int n : new int[] {2, 30, 63}) {
        int due = mill.series();
        checks.answers("promise 18: operator(" + series + ", " + n + ")", due, () -> mill.operator(series, n));
        for (int m = 0; m * n < 64; m++) {
          BigInteger total = BigInteger.ZERO;
          for (int d = 1; d <= n; d++) {
            if (m % d == 0 && n % d == 0) {
              total = total.add(big(d).pow(weight - 1).multiply(big(row[m * n / d / d])));
            }
          }
          int at = m;
          checks.answers("promise 18: operator(" + series + ", " + n + ") at " + m, total.longValue(),
              () -> mill.coefficient(due, at));
        }
      }
    }
  }

  private static void raises() {
    Heckeworks mill = new Heckeworks();
    mill.eisenstein(14);
    mill.raise(0, 2);
    checks.answers("promise 17: what has wrapped stays", mill.coefficient(0, 31), () -> mill.coefficient(1, 62));
    checks.answers("promise 17: and it is", big(31).pow(13).add(BigInteger.ONE).multiply(big(-24)).longValue(),
        () -> mill.coefficient(1, 62));
  }

  /** Powers far below 0, whose coefficients leave the longs, and far above. */
  private static void quotients() {
    int[][] known = {
      {30, 24, 1, -24}, {2, 24, 2, 24, 2, 24, 2, 24, 1, -24, 1, -24, 1, -24},
      {1, -24, 1, -24, 1, -24, 10, 24, 10, 24, 10, 24},
      {1, 24, 1, 24, 1, 24, 1, 24, 1, 24}, {30, 24, 1, -24, 1, -24, 2, 24, 3, 24}
    };
    int wrapped = 0;
    for (int[] factors : known) {
      Heckeworks mill = Mills.told(factors);
      checks.answers("promise 14: " + java.util.Arrays.toString(factors), 0, mill::eta);
      BigInteger[] due = quotient(factors);
      for (int n = 0; n < 64; n++) {
        wrapped += due[n].bitLength() > 63 ? 1 : 0;
        int at = n;
        checks.answers("promise 14: " + java.util.Arrays.toString(factors) + " at " + n, due[n].longValue(),
            () -> mill.coefficient(0, at));
      }
    }
    checks.same("promise 14: " + wrapped + " have wrapped", wrapped > 0, true);
  }

  private static BigInteger[] quotient(int[] factors) {
    BigInteger[] row = new BigInteger[64];
    java.util.Arrays.fill(row, BigInteger.ZERO);
    int start = 0;
    for (int i = 0; i < factors.length; i += 2) {
      start += factors[i] * factors[i + 1];
    }
    row[start / 24] = BigInteger.ONE;
    for (int i = 0; i < factors.length; i += 2) {
      for (int by = factors[i]; by < 64; by += factors[i]) {
        for (int often = Math.abs(factors[i + 1]); often > 0; often--) {
          for (int n = 0; n < 64; n++) {
            int at = factors[i + 1] > 0 ? 63 - n : n;
            BigInteger before = at < by ? BigInteger.ZERO : row[at - by];
            row[at] = factors[i + 1] > 0 ? row[at].subtract(before) : row[at].add(before);
          }
        }
      }
    }
    return row;
  }

  private static void totals() {
    Heckeworks mill = new Heckeworks();
    mill.theta(-4, 0);
    mill.sum(0, 0, -1);
    mill.sum(1, 0, MIN);
    mill.sum(1, 2, MIN);
    checks.answers("promise 37: so many", 193L * (1L << 62) + 193L * MIN + 193L, mill::allCoefficients);
    mill.sum(1, 3, 1);
    mill.sum(1, 3, 1);
    mill.sum(1, 3, 1);
    checks.answers("promise 37: four times wraps to less", 193L * MIN + 193L, mill::allCoefficients);
    mill.eisenstein(14);
    mill.eisenstein(14);
    long total = 193L * MIN + 193L;
    for (int n = 0; n < 64; n++) {
      total += 2 * mill.coefficient(7, n);
    }
    long due = total;
    checks.answers("promise 37: with two that have wrapped", due, mill::allCoefficients);
  }

  /** All 64 bits of coefficients count, and modulo m the longs themselves, not what lies between them. */
  private static void compared() {
    Heckeworks mill = new Heckeworks();
    mill.discriminant();
    mill.sum(0, 0, -1);
    mill.sum(1, 0, 65536);
    mill.sum(0, 2, 65536);
    checks.answers("promise 22: 2 to the power 32 and 1", (1L << 32) + 1, () -> mill.coefficient(3, 1));
    checks.answers("promise 24: the lower halves are the same", false, () -> mill.isEqual(0, 3));
    checks.answers("promise 25: modulo 2", true, () -> mill.isCongruent(0, 3, 2));
    checks.answers("promise 25: modulo 4096", true, () -> mill.isCongruent(0, 3, 4096));
    checks.answers("promise 25: modulo 3", false, () -> mill.isCongruent(0, 3, 3));
    checks.answers("promise 25: modulo 9999", false, () -> mill.isCongruent(0, 3, 9999));
    mill.sum(1, 0, MIN);
    mill.sum(1, 4, MIN);
    mill.sum(5, 5, 1);
    mill.sum(6, 0, -1);
    checks.answers("promise 22: the least", Long.MIN_VALUE, () -> mill.coefficient(6, 1));
    checks.answers("promise 22: the greatest", Long.MAX_VALUE, () -> mill.coefficient(7, 1));
    for (int m : new int[] {2, 3, 5, 7, 64, 127, 9998, 9999}) {
      BigInteger between = big(Long.MAX_VALUE).subtract(big(Long.MIN_VALUE));
      checks.answers("promise 25: the least and the greatest modulo " + m, between.mod(big(m)).signum() == 0,
          () -> mill.isCongruent(6, 7, m));
      BigInteger toZero = big(Long.MIN_VALUE);
      checks.answers("promise 25: the least and 0 modulo " + m, toZero.mod(big(m)).signum() == 0,
          () -> mill.isCongruent(6, 1, m));
    }
    checks.answers("promise 24: the least and the greatest", false, () -> mill.isEqual(6, 7));
  }

  /** What is 2 to the power 32 times a form, and the form, parts at once, though its lower half is 0. */
  private static void parts() {
    Heckeworks mill = new Heckeworks();
    mill.curve(0, -1, 1, -10, -20);
    Mills.tell(mill, 1, 2, 11, 2);
    mill.eta();
    mill.sum(0, 0, -1);
    mill.sum(1, 0, 65536);
    mill.sum(0, 2, 65536);
    checks.answers("promise 22: it is above the ints", -2 * ((1L << 32) + 1), () -> mill.coefficient(3, 2));
    checks.answers("promise 35: the form", 0, () -> mill.parts(0, 0));
    checks.answers("promise 35: above the ints", 2, () -> mill.parts(0, 3));
  }

  /** Traces above the ints, which do not wrap. */
  private static void longTraces() {
    Heckeworks mill = new Heckeworks();
    for (int weight = 12; weight <= 26; weight += 2) {
      for (int n = 17; n <= 20; n++) {
        int k = weight;
        int of = n;
        long due = new PlainMill().trace(weight, n);
        checks.answers("promise 30: trace(" + weight + ", " + n + ")", due, () -> mill.trace(k, of));
        checks.answers("promise 31: traceAnew(" + weight + ", " + n + ")", due, () -> mill.traceAnew(k, of));
      }
    }
  }
}
