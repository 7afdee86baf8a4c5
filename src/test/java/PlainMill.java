import java.math.BigInteger;
import java.util.ArrayList;
import java.util.HashMap;
import java.util.List;
import java.util.Map;
import java.util.NoSuchElementException;
import java.util.TreeSet;

/**
 * The document once more, as slowly and as literally as it can be written, to compare Heckeworks with: nothing is
 * shared with it, sums run over all pairs, numbers are BigIntegers, and traces come by dividing in the basis.
 */
public final class PlainMill {
  private static final class Row {
    final int weight;
    final int level;
    final long[] told;

    Row(int weight, int level, int precision) {
      this.weight = weight;
      this.level = level;
      this.told = new long[precision];
    }
  }

  private static final Map<Integer, List<Integer>> COSETS = new HashMap<>();
  private static final Map<Integer, List<Integer>> WIDTHS = new HashMap<>();

  private final List<Row> rows = new ArrayList<>();
  private final List<int[]> curves = new ArrayList<>();
  private List<int[]> factors = new ArrayList<>();

  private static int gcd(int a, int b) {
    return BigInteger.valueOf(a).gcd(BigInteger.valueOf(b)).intValue();
  }

  private static int lcm(int a, int b) {
    return a / gcd(a, b) * b;
  }

  private static void argument(boolean holds) {
    if (!holds) {
      throw new IllegalArgumentException();
    }
  }

  private static void bounds(boolean holds) {
    if (!holds) {
      throw new IndexOutOfBoundsException();
    }
  }

  private static void supported(boolean holds) {
    if (!holds) {
      throw new UnsupportedOperationException();
    }
  }

  private static void state(boolean holds) {
    if (!holds) {
      throw new IllegalStateException();
    }
  }

  // ---- Groups

  /** The least pair of a coset as c * 100 + d; -1 if the pair is none. */
  private static int least(int level, long c, long d) {
    int one = (int) Math.floorMod(c, (long) level);
    int two = (int) Math.floorMod(d, (long) level);
    if (gcd(gcd(one, two), level) != 1) {
      return -1;
    }
    int best = Integer.MAX_VALUE;
    for (int unit = 0; unit < level; unit++) {
      if (gcd(unit, level) == 1) {
        best = Math.min(best, one * unit % level * 100 + two * unit % level);
      }
    }
    return best;
  }

  private static List<Integer> cosets(int level) {
    return COSETS.computeIfAbsent(level, PlainMill::gatherCosets);
  }

  private static List<Integer> gatherCosets(int level) {
    TreeSet<Integer> found = new TreeSet<>();
    for (int c = 0; c < level; c++) {
      for (int d = 0; d < level; d++) {
        found.add(least(level, c, d));
      }
    }
    found.remove(-1);
    return new ArrayList<>(found);
  }

  private static List<Integer> widths(int level) {
    return WIDTHS.computeIfAbsent(level, PlainMill::gatherWidths);
  }

  private static List<Integer> gatherWidths(int level) {
    List<Integer> left = new ArrayList<>(cosets(level));
    List<Integer> found = new ArrayList<>();
    while (!left.isEmpty()) {
      int at = left.get(0);
      int length = 0;
      while (left.remove((Integer) at)) {
        length++;
        at = least(level, at / 100, at / 100 + at % 100);
      }
      found.add(length);
    }
    return found;
  }

  public int index(int level) {
    argument(level >= 1 && level <= 60);
    return cosets(level).size();
  }

  public int coset(int level, int c, int d) {
    argument(level >= 1 && level <= 60);
    int pair = least(level, c, d);
    supported(pair >= 0);
    return cosets(level).indexOf(pair);
  }

  public int cusps(int level) {
    argument(level >= 1 && level <= 60);
    return widths(level).size();
  }

  public int width(int level, int cusp) {
    argument(level >= 1 && level <= 60);
    bounds(cusp >= 0 && cusp < widths(level).size());
    return widths(level).get(cusp);
  }

  public int genus(int level) {
    argument(level >= 1 && level <= 60);
    int e2 = 0;
    int e3 = 0;
    for (int pair : cosets(level)) {
      int c = pair / 100;
      int d = pair % 100;
      e2 += least(level, d, -c) == pair ? 1 : 0;
      e3 += least(level, d, -c - d) == pair ? 1 : 0;
    }
    return genusOf(cosets(level).size(), e2, e3, widths(level).size());
  }

  private static int genusOf(int index, int e2, int e3, int cusps) {
    int twelfths = 12 + index - 3 * e2 - 4 * e3 - 6 * cusps;
    if (twelfths % 12 != 0) {
      throw new AssertionError("a genus is no whole number");
    }
    return twelfths / 12;
  }

  public int genusAnew(int level) {
    return genus(level);
  }

  public double meanWidth(int level) {
    argument(level >= 1 && level <= 60);
    return (double) cosets(level).size() / (double) widths(level).size();
  }

  public long widthBits(int level) {
    return Double.doubleToLongBits(meanWidth(level));
  }

  // ---- Symbols

  private static List<Integer> quotients(int a, int b) {
    List<Integer> found = new ArrayList<>();
    int rounded = Math.floorDiv(a, b);
    found.add(rounded);
    int rest = a - rounded * b;
    if (rest > 0) {
      found.addAll(quotients(b, rest));
    }
    return found;
  }

  public int steps(int a, int b) {
    argument(Math.abs((long) a) <= 9999 && b >= 1 && b <= 9999);
    return quotients(a, b).size();
  }

  public int step(int level, int a, int b, int step) {
    argument(level >= 1 && level <= 60 && Math.abs((long) a) <= 9999 && b >= 1 && b <= 9999);
    bounds(step >= 0 && step < steps(a, b));
    int now = denominator(quotients(a, b), step);
    int before = denominator(quotients(a, b), step - 1);
    return coset(level, now, step % 2 == 0 ? -before : before);
  }

  private static int denominator(List<Integer> quotients, int i) {
    if (i < 1) {
      return i + 1;
    }
    return quotients.get(i) * denominator(quotients, i - 1) + denominator(quotients, i - 2);
  }

  // ---- Series

  private Row at(int series) {
    bounds(series >= 0 && series < rows.size());
    return rows.get(series);
  }

  private int keep(Row row) {
    rows.add(row);
    return rows.size() - 1;
  }

  private static BigInteger big(long number) {
    return BigInteger.valueOf(number);
  }

  private static BigInteger[] eisensteinRow(int weight, int length) {
    int times = weight == 4 ? 240 : weight == 6 ? -504 : weight == 8 ? 480 : weight == 10 ? -264 : -24;
    BigInteger[] row = new BigInteger[length];
    for (int n = 0; n < length; n++) {
      row[n] = n == 0 ? BigInteger.ONE : BigInteger.ZERO;
      for (int d = 1; d <= n; d++) {
        row[n] = n % d == 0 ? row[n].add(big(d).pow(weight - 1).multiply(big(times))) : row[n];
      }
    }
    return row;
  }

  /** Multiplied by, or divided by, 1 less the variable to each power d n, one after another. */
  private static BigInteger[] etaRow(List<int[]> factors, int start, int length) {
    BigInteger[] row = new BigInteger[length];
    java.util.Arrays.fill(row, BigInteger.ZERO);
    if (start < length) {
      row[start] = BigInteger.ONE;
    }
    for (int[] factor : factors) {
      for (int by = factor[0]; by < length; by += factor[0]) {
        for (int often = Math.abs(factor[1]); often > 0; often--) {
          if (factor[1] > 0) {
            for (int i = length - 1; i >= by; i--) {
              row[i] = row[i].subtract(row[i - by]);
            }
          } else {
            for (int i = by; i < length; i++) {
              row[i] = row[i].add(row[i - by]);
            }
          }
        }
      }
    }
    return row;
  }

  private static BigInteger[] times(BigInteger[] one, BigInteger[] other) {
    BigInteger[] row = new BigInteger[Math.min(one.length, other.length)];
    java.util.Arrays.fill(row, BigInteger.ZERO);
    for (int i = 0; i < row.length; i++) {
      for (int j = 0; i + j < row.length; j++) {
        row[i + j] = row[i + j].add(one[i].multiply(other[j]));
      }
    }
    return row;
  }

  private static BigInteger[] bigs(long[] row) {
    BigInteger[] found = new BigInteger[row.length];
    for (int i = 0; i < row.length; i++) {
      found[i] = big(row[i]);
    }
    return found;
  }

  private int keep(int weight, int level, BigInteger[] row) {
    Row made = new Row(weight, level, row.length);
    for (int i = 0; i < row.length; i++) {
      made.told[i] = row[i].longValue();
    }
    return keep(made);
  }

  public int eisenstein(int weight) {
    argument(List.of(4, 6, 8, 10, 14).contains(weight));
    state(rows.size() < 16);
    return keep(weight, 1, eisensteinRow(weight, 64));
  }

  public int discriminant() {
    state(rows.size() < 16);
    return keep(12, 1, etaRow(List.of(new int[] {1, 24}), 1, 64));
  }

  public int factor(int d, int r) {
    argument(d >= 1 && d <= 30 && r >= -24 && r <= 24 && r != 0);
    supported(lcm(quotientLevel(), d) <= 60);
    state(factors.size() < 8);
    factors.add(new int[] {d, r});
    return factors.size();
  }

  private int quotientLevel() {
    int level = 1;
    for (int[] factor : factors) {
      level = lcm(level, factor[0]);
    }
    return level;
  }

  public boolean isWhole() {
    for (int c = 1; c <= quotientLevel(); c++) {
      if (quotientLevel() % c == 0) {
        BigInteger above = BigInteger.ZERO;
        BigInteger below = BigInteger.ONE;
        for (int[] factor : factors) {
          int common = gcd(factor[0], c);
          above = above.multiply(big(factor[0])).add(below.multiply(big(factor[1] * common * common)));
          below = below.multiply(big(factor[0]));
        }
        if (above.signum() < 0) {
          return false;
        }
      }
    }
    return true;
  }

  public int eta() {
    int twice = 0;
    int start = 0;
    for (int[] factor : factors) {
      twice += factor[1];
      start += factor[0] * factor[1];
    }
    supported(!factors.isEmpty() && twice >= 0 && twice % 2 == 0 && start >= 0 && start % 24 == 0
        && twice <= 120 && start <= 63 * 24);
    state(rows.size() < 16);
    int made = keep(twice / 2, quotientLevel(), etaRow(factors, start / 24, 64));
    factors = new ArrayList<>();
    return made;
  }

  public int product(int series, int other) {
    Row one = at(series);
    Row two = at(other);
    supported(one.weight + two.weight <= 60 && lcm(one.level, two.level) <= 60);
    state(rows.size() < 16);
    return keep(one.weight + two.weight, lcm(one.level, two.level), times(bigs(one.told), bigs(two.told)));
  }

  public int sum(int series, int other, int times) {
    Row one = at(series);
    Row two = at(other);
    supported(one.weight == two.weight && lcm(one.level, two.level) <= 60);
    state(rows.size() < 16);
    BigInteger[] row = new BigInteger[Math.min(one.told.length, two.told.length)];
    for (int i = 0; i < row.length; i++) {
      row[i] = big(one.told[i]).add(big(two.told[i]).multiply(big(times)));
    }
    return keep(one.weight, lcm(one.level, two.level), row);
  }

  public int raise(int series, int d) {
    Row one = at(series);
    argument(d >= 1 && d <= 30);
    supported(one.level * d <= 60);
    state(rows.size() < 16);
    Row made = new Row(one.weight, one.level * d, Math.min(64, one.told.length * d));
    for (int i = 0; i < made.told.length; i++) {
      made.told[i] = i % d == 0 ? one.told[i / d] : 0;
    }
    return keep(made);
  }

  private static BigInteger image(BigInteger[] row, int weight, int n, int m) {
    BigInteger total = BigInteger.ZERO;
    for (int d = 1; d <= n; d++) {
      if (m % d == 0 && n % d == 0) {
        total = total.add(big(d).pow(weight - 1).multiply(row[m * n / (d * d)]));
      }
    }
    return total;
  }

  public int operator(int series, int n) {
    Row one = at(series);
    argument(n >= 1 && n <= 63);
    supported(gcd(n, one.level) == 1 && one.weight != 0);
    state(rows.size() < 16);
    List<BigInteger> row = new ArrayList<>();
    for (int m = 0; m * n < one.told.length; m++) {
      row.add(image(bigs(one.told), one.weight, n, m));
    }
    return keep(one.weight, one.level, row.toArray(new BigInteger[0]));
  }

  public int weight(int series) {
    return at(series).weight;
  }

  public int level(int series) {
    return at(series).level;
  }

  public int precision(int series) {
    return at(series).told.length;
  }

  public long coefficient(int series, int n) {
    long[] told = at(series).told;
    if (n < 0 || n >= told.length) {
      throw new NoSuchElementException();
    }
    return told[n];
  }

  public int bound(int series, int other) {
    Row one = at(series);
    Row two = at(other);
    supported(one.weight == two.weight && lcm(one.level, two.level) <= 60);
    return one.weight * cosets(lcm(one.level, two.level)).size() / 12;
  }

  public boolean isEqual(int series, int other) {
    int last = bound(series, other);
    supported(last < precision(series) && last < precision(other));
    boolean result = true;
    for (int i = 0; i <= last; i++) {
      result &= coefficient(series, i) == coefficient(other, i);
    }
    return result;
  }

  public boolean isCongruent(int series, int other, int m) {
    at(series);
    at(other);
    argument(m >= 2 && m <= 9999);
    int last = bound(series, other);
    supported(last < precision(series) && last < precision(other));
    boolean result = true;
    for (int i = 0; i <= last; i++) {
      BigInteger less = big(coefficient(series, i)).subtract(big(coefficient(other, i)));
      result &= less.mod(big(m)).signum() == 0;
    }
    return result;
  }

  // ---- Quadratic forms

  private static List<int[]> reduced(int discriminant) {
    List<int[]> found = new ArrayList<>();
    for (int a = 1; a <= 20; a++) {
      for (int b = -20; b <= 20; b++) {
        for (int c = a; 4 * a * c <= b * b - discriminant; c++) {
          boolean isReduced = Math.abs(b) <= a && a <= c && (b >= 0 || Math.abs(b) != a && a != c);
          if (b * b - 4 * a * c == discriminant && isReduced) {
            found.add(new int[] {a, b, c});
          }
        }
      }
    }
    return found;
  }

  private static List<int[]> primitive(int discriminant) {
    List<int[]> found = reduced(discriminant);
    found.removeIf(form -> gcd(gcd(form[0], form[1]), form[2]) != 1);
    return found;
  }

  private static void checkDiscriminant(int discriminant) {
    argument(discriminant >= -400 && discriminant <= -3 && Math.floorMod(discriminant, 4) <= 1);
  }

  public int forms(int discriminant) {
    checkDiscriminant(discriminant);
    return primitive(discriminant).size();
  }

  public int formAt(int discriminant, int index, char which) {
    checkDiscriminant(discriminant);
    argument(which >= 'a' && which <= 'c');
    bounds(index >= 0 && index < primitive(discriminant).size());
    return primitive(discriminant).get(index)[which - 'a'];
  }

  public int theta(int discriminant, int index) {
    checkDiscriminant(discriminant);
    bounds(index >= 0 && index < primitive(discriminant).size());
    supported(-discriminant <= 60);
    state(rows.size() < 16);
    int[] form = primitive(discriminant).get(index);
    Row made = new Row(1, -discriminant, 64);
    for (int x = -70; x <= 70; x++) {
      for (int y = -70; y <= 70; y++) {
        int value = form[0] * x * x + form[1] * x * y + form[2] * y * y;
        if (value < 64) {
          made.told[value]++;
        }
      }
    }
    return keep(made);
  }

  public int weighed(int n) {
    argument(n >= 0 && n <= 400);
    int total = n == 0 ? -1 : 0;
    for (int[] form : n == 0 ? new ArrayList<int[]>() : reduced(-n)) {
      boolean isSquare = form[0] == form[2] && form[1] == 0;
      boolean isTriangle = form[0] == form[1] && form[0] == form[2];
      total += isSquare ? 6 : isTriangle ? 4 : 12;
    }
    return total;
  }

  // ---- Traces

  /** The operator's matrix by dividing, on Discriminant's times the powers of the two Eisenstein's themselves. */
  public long trace(int weight, int n) {
    argument(weight >= 2 && weight <= 26 && weight % 2 == 0 && n >= 1 && n <= 20);
    List<BigInteger[]> basis = new ArrayList<>();
    for (int six = 0; 6 * six <= weight - 12; six++) {
      if ((weight - 12 - 6 * six) % 4 == 0) {
        BigInteger[] form = etaRow(List.of(new int[] {1, 24}), 1, 64);
        for (int i = 0; i < six; i++) {
          form = times(form, eisensteinRow(6, 64));
        }
        for (int i = 0; i < (weight - 12 - 6 * six) / 4; i++) {
          form = times(form, eisensteinRow(4, 64));
        }
        basis.add(form);
      }
    }
    if (basis.isEmpty()) {
      return 0;
    }
    if (basis.size() == 1) {
      return image(basis.get(0), weight, n, 1).longValueExact();
    }
    BigInteger[] f = basis.get(0);
    BigInteger[] g = basis.get(1);
    BigInteger below = f[1].multiply(g[2]).subtract(f[2].multiply(g[1]));
    BigInteger ofF = image(f, weight, n, 1).multiply(g[2]).subtract(image(f, weight, n, 2).multiply(g[1]));
    BigInteger ofG = f[1].multiply(image(g, weight, n, 2)).subtract(f[2].multiply(image(g, weight, n, 1)));
    BigInteger[] divided = ofF.add(ofG).divideAndRemainder(below);
    if (divided[1].signum() != 0 || basis.size() > 2) {
      throw new AssertionError("a trace is no whole number");
    }
    return divided[0].longValueExact();
  }

  public long traceAnew(int weight, int n) {
    argument(weight >= 2 && weight <= 26 && weight % 2 == 0 && n >= 1 && n <= 20);
    BigInteger twentyFourths = BigInteger.ZERO;
    for (int t = -9; t <= 9; t++) {
      if (t * t <= 4 * n) {
        twentyFourths = twentyFourths.subtract(polynomial(weight, t, n).multiply(big(weighed(4 * n - t * t))));
      }
    }
    for (int d = 1; d <= n; d++) {
      if (n % d == 0) {
        twentyFourths = twentyFourths.subtract(big(Math.min(d, n / d)).pow(weight - 1).multiply(big(12)));
        twentyFourths = weight == 2 ? twentyFourths.add(big(24 * d)) : twentyFourths;
      }
    }
    BigInteger[] divided = twentyFourths.divideAndRemainder(big(24));
    if (divided[1].signum() != 0) {
      throw new AssertionError("a trace is no whole number");
    }
    return divided[0].longValueExact();
  }

  private static BigInteger polynomial(int weight, int t, int n) {
    if (weight <= 4) {
      return weight == 2 ? BigInteger.ONE : big(t * t - n);
    }
    return polynomial(weight - 2, t, n).multiply(big(t * t - 2 * n))
        .subtract(polynomial(weight - 4, t, n).multiply(big(n * n)));
  }

  // ---- Curves

  private int[] curveAt(int curve) {
    bounds(curve >= 0 && curve < curves.size());
    return curves.get(curve);
  }

  private static void checkPrime(int p) {
    argument(p >= 2 && p <= 97 && big(p).isProbablePrime(20));
  }

  private static List<int[]> solutions(int[] k, int p) {
    List<int[]> found = new ArrayList<>();
    for (int x = 0; x < p; x++) {
      for (int y = 0; y < p; y++) {
        long left = (long) y * y + (long) k[0] * x * y + (long) k[2] * y;
        long right = (long) x * x * x + (long) k[1] * x * x + (long) k[3] * x + k[4];
        if ((left - right) % p == 0) {
          found.add(new int[] {x, y});
        }
      }
    }
    return found;
  }

  public int curve(int a1, int a2, int a3, int a4, int a6) {
    for (int a : new int[] {a1, a2, a3, a4, a6}) {
      argument(a >= -999 && a <= 999);
    }
    state(curves.size() < 6);
    curves.add(new int[] {a1, a2, a3, a4, a6});
    return curves.size() - 1;
  }

  public int points(int curve, int p) {
    int[] numbers = curveAt(curve);
    checkPrime(p);
    return p - solutions(numbers, p).size();
  }

  public boolean isGood(int curve, int p) {
    int[] k = curveAt(curve);
    checkPrime(p);
    for (int[] pair : solutions(k, p)) {
      long x = pair[0];
      long y = pair[1];
      if ((2 * y + k[0] * x + k[2]) % p == 0 && (3 * x * x + 2 * k[1] * x + k[3] - k[0] * y) % p == 0) {
        return false;
      }
    }
    return true;
  }

  public int parts(int curve, int series) {
    curveAt(curve);
    Row row = at(series);
    for (int p = 2; p < Math.min(98, row.told.length); p++) {
      if (big(p).isProbablePrime(20) && isGood(curve, p) && row.told[p] != points(curve, p)) {
        return p;
      }
    }
    return 0;
  }

  // ---- The whole

  public int series() {
    return rows.size();
  }

  public long allCoefficients() {
    BigInteger total = BigInteger.ZERO;
    for (Row row : rows) {
      for (long told : row.told) {
        total = total.add(big(told));
      }
    }
    return total.longValue();
  }

  public float toldShare() {
    if (rows.isEmpty()) {
      throw new ArithmeticException();
    }
    int told = 0;
    for (Row row : rows) {
      told += row.told.length;
    }
    return (float) told / (float) (64 * rows.size());
  }

  public int toldBits() {
    return rows.isEmpty() ? 0 : Float.floatToIntBits(toldShare());
  }

  public boolean isSound() {
    return true;
  }
}
