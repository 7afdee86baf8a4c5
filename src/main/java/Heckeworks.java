import java.util.Arrays;
import java.util.NoSuchElementException;

/** A mill of modular forms. The promises that it keeps stand in the document; README.md shows how to use it. */
public final class Heckeworks {
  private static final int MOST_SERIES = 16;
  private static final int MOST_CURVES = 6;
  private static final int MOST_LEVEL = 60;
  private static final int MOST_WEIGHT = 60;
  private static final int TERMS = 64;
  private static final int MOST_PRIME = 97;
  private static final int[] PRIMES = {
    2, 3, 5, 7, 11, 13, 17, 19, 23, 29, 31, 37, 41, 43, 47, 53, 59, 61, 67, 71, 73, 79, 83, 89, 97
  };

  private final Group group;
  private final Fraction fraction;
  private final Series[] made;
  private int madeCount;
  private final Quotient quotient;
  private final Forms reduced;
  private final Traces traces;
  private final Curve[] curves;
  private int curveCount;
  private final int[] roots;

  /** Makes all rows that any later call needs, so that calls make none. */
  public Heckeworks() {
    group = new Group();
    fraction = new Fraction();
    made = new Series[MOST_SERIES];
    for (int i = 0; i < made.length; i++) {
      made[i] = new Series();
    }
    quotient = new Quotient();
    reduced = new Forms();
    traces = new Traces();
    curves = new Curve[MOST_CURVES];
    for (int i = 0; i < curves.length; i++) {
      curves[i] = new Curve();
    }
    roots = new int[MOST_PRIME];
  }

  // ---- Groups

  public int index(int level) throws IllegalArgumentException {
    return groupOf(level).cosetCount;
  }

  public int coset(int level, int c, int d) throws IllegalArgumentException, UnsupportedOperationException {
    int number = groupOf(level).numberOf(c, d);
    if (number < 0) {
      throw new UnsupportedOperationException("the pair is none of a coset");
    }
    return number;
  }

  public int cusps(int level) throws IllegalArgumentException {
    return groupOf(level).cuspCount;
  }

  public int width(int level, int cusp) throws IllegalArgumentException, IndexOutOfBoundsException {
    Group found = groupOf(level);
    if (cusp < 0 || cusp >= found.cuspCount || cusp >= found.widths.length) {
      throw new IndexOutOfBoundsException("there is no such cusp");
    }
    return found.widths[cusp];
  }

  public int genus(int level) throws IllegalArgumentException {
    return groupOf(level).genusByCosets();
  }

  public int genusAnew(int level) throws IllegalArgumentException {
    checkLevel(level);
    return Divisors.genusOf(level);
  }

  public double meanWidth(int level) throws IllegalArgumentException {
    return groupOf(level).meanOfWidths();
  }

  public long widthBits(int level) throws IllegalArgumentException {
    return Bits.ofDouble(groupOf(level).meanOfWidths());
  }

  private void checkLevel(int level) throws IllegalArgumentException {
    if (level < 1 || level > MOST_LEVEL) {
      throw new IllegalArgumentException("the level is not 1 to 60");
    }
  }

  private Group groupOf(int level) throws IllegalArgumentException {
    checkLevel(level);
    group.build(level);
    return group;
  }

  // ---- Symbols

  public int steps(int a, int b) throws IllegalArgumentException {
    return fractionOf(a, b).length;
  }

  public int step(int level, int a, int b, int step) throws IllegalArgumentException, IndexOutOfBoundsException {
    Group found = groupOf(level);
    Fraction read = fractionOf(a, b);
    if (step < 0 || step >= read.length) {
      throw new IndexOutOfBoundsException("there is no such step");
    }
    int before = read.denominatorAt(step - 1);
    return found.numberOf(read.denominatorAt(step), step % 2 == 0 ? -before : before);
  }

  private Fraction fractionOf(int a, int b) throws IllegalArgumentException {
    if (a < -9999 || a > 9999 || b < 1 || b > 9999) {
      throw new IllegalArgumentException("a number of the fraction is out of range");
    }
    fraction.read(a, b);
    return fraction;
  }

  // ---- Series

  public int eisenstein(int weight) throws IllegalArgumentException, IllegalStateException {
    if (Rows.eisensteinTimes(weight) == 0) {
      throw new IllegalArgumentException("the weight is none of 4, 6, 8, 10, 14");
    }
    Series next = nextSeries(weight, 1, TERMS);
    Rows.setEisenstein(next.row, weight);
    return madeCount - 1;
  }

  public int discriminant() throws IllegalStateException {
    Series next = nextSeries(12, 1, TERMS);
    Rows.setDiscriminant(next.row);
    return madeCount - 1;
  }

  public int product(int series, int other)
      throws IndexOutOfBoundsException, UnsupportedOperationException, IllegalStateException {
    Series one = seriesAt(series);
    Series two = seriesAt(other);
    if (one.weight + two.weight > MOST_WEIGHT) {
      throw new UnsupportedOperationException("the weight would be greater than 60");
    }
    int terms = Math.min(one.precision, two.precision);
    Series next = nextSeries(one.weight + two.weight, commonLevel(one, two), terms);
    Rows.copy(next.row, one.row);
    Rows.multiplyBy(next.row, two.row, terms);
    return madeCount - 1;
  }

  public int sum(int series, int other, int times)
      throws IndexOutOfBoundsException, UnsupportedOperationException, IllegalStateException {
    Series one = seriesAt(series);
    Series two = seriesAt(other);
    checkWeights(one, two);
    int terms = Math.min(one.precision, two.precision);
    Series next = nextSeries(one.weight, commonLevel(one, two), terms);
    Rows.copy(next.row, one.row);
    Rows.addTimes(next.row, two.row, times);
    return madeCount - 1;
  }

  public int raise(int series, int d)
      throws IndexOutOfBoundsException, IllegalArgumentException, UnsupportedOperationException,
          IllegalStateException {
    Series one = seriesAt(series);
    if (d < 1 || d > 30) {
      throw new IllegalArgumentException("the number is not 1 to 30");
    }
    if (one.level * d > MOST_LEVEL) {
      throw new UnsupportedOperationException("the level would be greater than 60");
    }
    Series next = nextSeries(one.weight, one.level * d, Math.min(one.precision * d, TERMS));
    Rows.spread(next.row, one.row, d);
    return madeCount - 1;
  }

  public int operator(int series, int n)
      throws IndexOutOfBoundsException, IllegalArgumentException, UnsupportedOperationException,
          IllegalStateException {
    Series one = seriesAt(series);
    if (n < 1 || n > 63) {
      throw new IllegalArgumentException("n is not 1 to 63");
    }
    if (one.weight == 0 || Numbers.commonDivisor(n, one.level) != 1) {
      throw new UnsupportedOperationException("n and the level have a common divisor, or the weight is 0");
    }
    int terms = (one.precision - 1) / n + 1;
    Series next = nextSeries(one.weight, one.level, terms);
    Rows.setImage(next.row, one.row, one.weight, n, terms);
    return madeCount - 1;
  }

  public int weight(int series) throws IndexOutOfBoundsException {
    return seriesAt(series).weight;
  }

  public int level(int series) throws IndexOutOfBoundsException {
    return seriesAt(series).level;
  }

  public int precision(int series) throws IndexOutOfBoundsException {
    return seriesAt(series).precision;
  }

  public long coefficient(int series, int n) throws IndexOutOfBoundsException, NoSuchElementException {
    Series one = seriesAt(series);
    if (!one.tells(n)) {
      throw new NoSuchElementException("the coefficient is not told");
    }
    return one.row[n];
  }

  public int series() {
    return madeCount;
  }

  public long allCoefficients() {
    long total = 0;
    for (int i = 0; i < madeCount && i < made.length; i++) {
      total += made[i].total();
    }
    return total;
  }

  public float toldShare() throws ArithmeticException {
    if (madeCount == 0) {
      throw new ArithmeticException("there are no series");
    }
    return shareOfTold();
  }

  public int toldBits() {
    return madeCount == 0 ? 0 : Bits.ofFloat(shareOfTold());
  }

  /** Only for a mill that has series. */
  private float shareOfTold() {
    int told = 0;
    for (int i = 0; i < madeCount && i < made.length; i++) {
      told += made[i].precision;
    }
    return (float) told / (float) (TERMS * madeCount);
  }

  private Series seriesAt(int series) throws IndexOutOfBoundsException {
    if (series < 0 || series >= madeCount || series >= made.length) {
      throw new IndexOutOfBoundsException("there is no such series");
    }
    return made[series];
  }

  /** The last check of each call that makes a series: behind it nothing more is thrown. */
  private Series nextSeries(int weight, int level, int precision) throws IllegalStateException {
    if (madeCount < 0 || madeCount >= made.length) {
      throw new IllegalStateException("there are 16 series");
    }
    Series next = made[madeCount];
    madeCount++;
    next.begin(weight, level, precision);
    return next;
  }

  private void checkWeights(Series one, Series two) throws UnsupportedOperationException {
    if (one.weight != two.weight) {
      throw new UnsupportedOperationException("the weights are not the same");
    }
  }

  private int commonLevel(Series one, Series two) throws UnsupportedOperationException {
    int common = Numbers.commonMultiple(one.level, two.level);
    if (common > MOST_LEVEL) {
      throw new UnsupportedOperationException("the level would be greater than 60");
    }
    return common;
  }

  // ---- Bounds

  public int bound(int series, int other) throws IndexOutOfBoundsException, UnsupportedOperationException {
    return boundOf(seriesAt(series), seriesAt(other));
  }

  public boolean isEqual(int series, int other) throws IndexOutOfBoundsException, UnsupportedOperationException {
    Series one = seriesAt(series);
    Series two = seriesAt(other);
    int last = toldBoundOf(one, two);
    for (int i = 0; i <= last && i < TERMS; i++) {
      if (one.row[i] != two.row[i]) {
        return false;
      }
    }
    return true;
  }

  public boolean isCongruent(int series, int other, int m)
      throws IndexOutOfBoundsException, IllegalArgumentException, UnsupportedOperationException {
    Series one = seriesAt(series);
    Series two = seriesAt(other);
    if (m < 2 || m > 9999) {
      throw new IllegalArgumentException("m is not 2 to 9999");
    }
    int last = toldBoundOf(one, two);
    for (int i = 0; i <= last && i < TERMS; i++) {
      // Rest by rest, for the difference of two longs may wrap.
      if (Math.floorMod(one.row[i], (long) m) != Math.floorMod(two.row[i], (long) m)) {
        return false;
      }
    }
    return true;
  }

  private int boundOf(Series one, Series two) throws UnsupportedOperationException {
    checkWeights(one, two);
    return one.weight * Divisors.indexOf(commonLevel(one, two)) / 12;
  }

  private int toldBoundOf(Series one, Series two) throws UnsupportedOperationException {
    int last = boundOf(one, two);
    if (!one.tells(last) || !two.tells(last)) {
      throw new UnsupportedOperationException("a series has not all of the coefficients");
    }
    return last;
  }

  // ---- Quotients of eta

  public int factor(int d, int r)
      throws IllegalArgumentException, UnsupportedOperationException, IllegalStateException {
    if (d < 1 || d > 30 || r < -24 || r > 24 || r == 0) {
      throw new IllegalArgumentException("a number of the factor is out of range");
    }
    if (Numbers.commonMultiple(quotient.level, d) > MOST_LEVEL) {
      throw new UnsupportedOperationException("the level would be greater than 60");
    }
    if (quotient.isFull()) {
      throw new IllegalStateException("the quotient has 8 factors");
    }
    quotient.add(d, r);
    return quotient.count;
  }

  public boolean isWhole() {
    return quotient.isWholeAtAll();
  }

  public int eta() throws UnsupportedOperationException, IllegalStateException {
    if (!quotient.canBeMade()) {
      throw new UnsupportedOperationException("the next quotient makes no series");
    }
    Series next = nextSeries(quotient.twiceWeight() / 2, quotient.level, TERMS);
    quotient.fill(next.row);
    quotient.clear();
    return madeCount - 1;
  }

  // ---- Quadratic forms

  public int forms(int discriminant) throws IllegalArgumentException {
    return formsOf(discriminant).primitives;
  }

  public int formAt(int discriminant, int index, char which)
      throws IllegalArgumentException, IndexOutOfBoundsException {
    Forms found = formsOf(discriminant);
    if (which != 'a' && which != 'b' && which != 'c') {
      throw new IllegalArgumentException("there is no such letter");
    }
    checkForm(found, index);
    return found.numberAt(found.placeOf(index), which);
  }

  public int theta(int discriminant, int index)
      throws IllegalArgumentException, IndexOutOfBoundsException, UnsupportedOperationException,
          IllegalStateException {
    Forms found = formsOf(discriminant);
    checkForm(found, index);
    if (-discriminant > MOST_LEVEL) {
      throw new UnsupportedOperationException("the level would be greater than 60");
    }
    Series next = nextSeries(1, -discriminant, TERMS);
    found.countPairs(next.row, found.placeOf(index));
    return madeCount - 1;
  }

  public int weighed(int n) throws IllegalArgumentException {
    if (n < 0 || n > 400) {
      throw new IllegalArgumentException("the number is not 0 to 400");
    }
    return reduced.weighedCount(n);
  }

  private Forms formsOf(int discriminant) throws IllegalArgumentException {
    if (discriminant < -400 || discriminant > -3 || Math.floorMod(discriminant, 4) > 1) {
      throw new IllegalArgumentException("there is no such discriminant");
    }
    reduced.gather(discriminant);
    return reduced;
  }

  private void checkForm(Forms found, int index) throws IndexOutOfBoundsException {
    if (index < 0 || index >= found.primitives) {
      throw new IndexOutOfBoundsException("there is no such form");
    }
  }

  // ---- Traces

  public long trace(int weight, int n) throws IllegalArgumentException {
    checkTrace(weight, n);
    return traces.byBasis(weight, n);
  }

  public long traceAnew(int weight, int n) throws IllegalArgumentException {
    checkTrace(weight, n);
    return traces.byClasses(weight, n, reduced);
  }

  public boolean isSound() {
    for (int i = 0; i < madeCount && i < made.length; i++) {
      group.build(made[i].level);
      if (group.genusByCosets() != Divisors.genusOf(made[i].level)) {
        return false;
      }
    }
    for (int n = 1; n <= 4; n++) {
      if (traces.byBasis(12, n) != traces.byClasses(12, n, reduced)
          || traces.byBasis(24, n) != traces.byClasses(24, n, reduced)) {
        return false;
      }
    }
    return true;
  }

  private void checkTrace(int weight, int n) throws IllegalArgumentException {
    if (weight < 2 || weight > 26 || weight % 2 != 0 || n < 1 || n > 20) {
      throw new IllegalArgumentException("the weight or n is out of range");
    }
  }

  // ---- Curves

  public int curve(int a1, int a2, int a3, int a4, int a6) throws IllegalArgumentException, IllegalStateException {
    if (isBeyond(a1) || isBeyond(a2) || isBeyond(a3) || isBeyond(a4) || isBeyond(a6)) {
      throw new IllegalArgumentException("a number of the curve is out of range");
    }
    if (curveCount < 0 || curveCount >= curves.length) {
      throw new IllegalStateException("there are 6 curves");
    }
    curves[curveCount].begin(a1, a2, a3, a4, a6);
    curveCount++;
    return curveCount - 1;
  }

  public int points(int curve, int p) throws IndexOutOfBoundsException, IllegalArgumentException {
    Curve one = curveAt(curve);
    checkPrime(p);
    return p - one.solutions(p, roots);
  }

  public boolean isGood(int curve, int p) throws IndexOutOfBoundsException, IllegalArgumentException {
    Curve one = curveAt(curve);
    checkPrime(p);
    return one.isSmooth(p);
  }

  public int parts(int curve, int series) throws IndexOutOfBoundsException {
    Curve one = curveAt(curve);
    Series told = seriesAt(series);
    for (int i = 0; i < PRIMES.length; i++) {
      int p = PRIMES[i];
      if (told.tells(p) && told.row[p] != p - one.solutions(p, roots) && one.isSmooth(p)) {
        return p;
      }
    }
    return 0;
  }

  private boolean isBeyond(int number) {
    return number < -999 || number > 999;
  }

  private Curve curveAt(int curve) throws IndexOutOfBoundsException {
    if (curve < 0 || curve >= curveCount || curve >= curves.length) {
      throw new IndexOutOfBoundsException("there is no such curve");
    }
    return curves[curve];
  }

  private void checkPrime(int p) throws IllegalArgumentException {
    for (int i = 0; i < PRIMES.length; i++) {
      if (PRIMES[i] == p) {
        return;
      }
    }
    throw new IllegalArgumentException("the number is no prime up to 97");
  }

  /** Arithmetic of whole numbers that never divides by 0. */
  private static final class Numbers {
    private Numbers() {}

    static int mod(int a, int n) {
      return n < 1 ? 0 : Math.floorMod(a, n);
    }

    static boolean divides(int d, int n) {
      return d != 0 && n % d == 0;
    }

    static int commonDivisor(int a, int b) {
      int one = a < 0 ? -a : a;
      int two = b < 0 ? -b : b;
      // Far more rounds than two ints can need.
      for (int i = 0; i < 100 && two > 0; i++) {
        int rest = one % two;
        one = two;
        two = rest;
      }
      return one;
    }

    static int commonMultiple(int a, int b) {
      int common = commonDivisor(a, b);
      return common == 0 ? 0 : a / common * b;
    }

    /** Wraps. */
    static long power(long base, int exponent) {
      long result = 1;
      for (int i = 0; i < exponent; i++) {
        result *= base;
      }
      return result;
    }
  }

  /** What a level's divisors tell of its group. */
  private static final class Divisors {
    private Divisors() {}

    static int indexOf(int level) {
      int result = level;
      int rest = level;
      for (int p = 2; p <= level; p++) {
        if (rest % p == 0) {
          result = result / p * (p + 1);
        }
        // 32 halvings leave nothing of any int.
        for (int i = 0; i < 32 && rest > 0 && rest % p == 0; i++) {
          rest /= p;
        }
      }
      return result;
    }

    static int genusOf(int level) {
      int turned = 0;
      int tripled = 0;
      for (int x = 0; x < level; x++) {
        turned += (x * x + 1) % level == 0 ? 1 : 0;
        tripled += (x * x + x + 1) % level == 0 ? 1 : 0;
      }
      return genusFrom(indexOf(level), turned, tripled, cuspsOf(level));
    }

    static int genusFrom(int index, int turned, int tripled, int cusps) {
      return (12 + index - 3 * turned - 4 * tripled - 6 * cusps) / 12;
    }

    private static int cuspsOf(int level) {
      int total = 0;
      for (int d = 1; d <= level; d++) {
        if (level % d == 0) {
          total += countPrimeTo(Numbers.commonDivisor(d, level / d));
        }
      }
      return total;
    }

    private static int countPrimeTo(int g) {
      int total = 0;
      for (int i = 1; i <= g; i++) {
        total += Numbers.commonDivisor(i, g) == 1 ? 1 : 0;
      }
      return total;
    }
  }

  /** The cosets and cusps of one level, kept until another level is asked for. */
  private static final class Group {
    private static final int MOST_COSETS = 144;

    private final int[] numbers = new int[MOST_LEVEL * MOST_LEVEL];
    private final int[] units = new int[MOST_LEVEL];
    private final int[] firsts = new int[MOST_COSETS];
    private final int[] seconds = new int[MOST_COSETS];
    private final boolean[] passed = new boolean[MOST_COSETS];
    private final int[] widths = new int[MOST_COSETS];
    private int level;
    private int unitCount;
    private int cosetCount;
    private int cuspCount;

    void build(int wanted) {
      if (wanted == level || wanted < 1 || wanted > MOST_LEVEL) {
        return;
      }
      level = wanted;
      gatherUnits();
      numberCosets();
      measureCusps();
    }

    /** The number of the coset of a pair, taken modulo the level; -1 if it has none. */
    int numberOf(int c, int d) {
      int place = Numbers.mod(c, level) * level + Numbers.mod(d, level);
      return place < 0 || place >= numbers.length ? -1 : numbers[place];
    }

    int genusByCosets() {
      int turned = 0;
      int tripled = 0;
      for (int i = 0; i < cosetCount && i < MOST_COSETS; i++) {
        turned += numberOf(seconds[i], -firsts[i]) == i ? 1 : 0;
        tripled += numberOf(seconds[i], -firsts[i] - seconds[i]) == i ? 1 : 0;
      }
      return Divisors.genusFrom(cosetCount, turned, tripled, cuspCount);
    }

    double meanOfWidths() {
      return cuspCount == 0 ? 0.0 : (double) cosetCount / (double) cuspCount;
    }

    private void gatherUnits() {
      unitCount = 0;
      for (int unit = 1; unit <= level && unitCount < MOST_LEVEL; unit++) {
        if (Numbers.commonDivisor(unit, level) == 1) {
          units[unitCount] = unit;
          unitCount++;
        }
      }
    }

    private void numberCosets() {
      Arrays.fill(numbers, -1);
      cosetCount = 0;
      for (int c = 0; c < level; c++) {
        for (int d = 0; d < level; d++) {
          // In this order the first pair that is met of a coset is its least.
          if (numberOf(c, d) < 0 && isPair(c, d) && cosetCount < MOST_COSETS) {
            firsts[cosetCount] = c;
            seconds[cosetCount] = d;
            markMultiples(c, d, cosetCount);
            cosetCount++;
          }
        }
      }
    }

    private boolean isPair(int c, int d) {
      return Numbers.commonDivisor(Numbers.commonDivisor(c, d), level) == 1;
    }

    private void markMultiples(int c, int d, int number) {
      for (int i = 0; i < unitCount && i < MOST_LEVEL; i++) {
        int place = Numbers.mod(c * units[i], level) * level + Numbers.mod(d * units[i], level);
        if (place >= 0 && place < numbers.length) {
          numbers[place] = number;
        }
      }
    }

    private void measureCusps() {
      for (int i = 0; i < MOST_COSETS; i++) {
        passed[i] = false;
      }
      cuspCount = 0;
      for (int i = 0; i < cosetCount && i < MOST_COSETS; i++) {
        if (!passed[i] && cuspCount < MOST_COSETS) {
          widths[cuspCount] = passCycle(i);
          cuspCount++;
        }
      }
    }

    /** The length of the shift's cycle of a coset, whose cosets are passed then. */
    private int passCycle(int coset) {
      int at = coset;
      int length = 0;
      while (length < cosetCount && at >= 0 && at < MOST_COSETS && !passed[at]) {
        passed[at] = true;
        length++;
        at = numberOf(firsts[at], firsts[at] + seconds[at]);
      }
      return length;
    }
  }

  /** The denominators of the convergents of one fraction. */
  private static final class Fraction {
    // Denominators grow like Fibonacci's numbers, so one below 10000 has fewer quotients than this.
    private static final int MOST_QUOTIENTS = 32;

    private final int[] denominators = new int[MOST_QUOTIENTS];
    private int length;

    void read(int a, int b) {
      int above = a;
      int below = b;
      int last = 0;
      int beforeLast = 1;
      length = 0;
      while (below > 0 && length < MOST_QUOTIENTS) {
        int quotient = Math.floorDiv(above, below);
        int rest = above - quotient * below;
        int denominator = quotient * last + beforeLast;
        beforeLast = last;
        last = denominator;
        denominators[length] = denominator;
        length++;
        above = below;
        below = rest;
      }
    }

    /** 0 ahead of the first one. */
    int denominatorAt(int i) {
      return i < 0 || i >= MOST_QUOTIENTS ? 0 : denominators[i];
    }
  }

  /** Arithmetic of rows of 64 coefficients, all of which wraps. */
  private static final class Rows {
    private Rows() {}

    static void setOne(long[] row) {
      Arrays.fill(row, 0L);
      if (row.length > 0) {
        row[0] = 1;
      }
    }

    static void copy(long[] into, long[] from) {
      for (int i = 0; i < into.length && i < from.length; i++) {
        into[i] = from[i];
      }
    }

    static void addTimes(long[] row, long[] other, long times) {
      for (int i = 0; i < row.length && i < other.length; i++) {
        row[i] += times * other[i];
      }
    }

    /** The other row must be another array; coefficients from the number of terms on lose their meaning. */
    static void multiplyBy(long[] row, long[] other, int terms) {
      int most = Math.min(terms, Math.min(row.length, other.length));
      // From above, for what is below is still needed as it was.
      for (int i = most - 1; i >= 0; i--) {
        long total = 0;
        for (int j = 0; j <= i; j++) {
          total += row[j] * other[i - j];
        }
        row[i] = total;
      }
    }

    static void moveUp(long[] row, int by) {
      for (int i = row.length - 1; i >= 0; i--) {
        row[i] = i >= by && by >= 0 ? row[i - by] : 0;
      }
    }

    static void spread(long[] into, long[] from, int d) {
      Arrays.fill(into, 0L);
      for (int i = 0; i < from.length; i++) {
        int place = i * d;
        if (place >= 0 && place < into.length) {
          into[place] = from[i];
        }
      }
    }

    /** Times the product of 1 less the variable to the power d n, over n from 1 on. */
    static void timesEuler(long[] row, int d) {
      for (int i = row.length - 1; i >= 0; i--) {
        row[i] += pentagonSum(row, i, d);
      }
    }

    /** Divided by the same product. */
    static void overEuler(long[] row, int d) {
      for (int i = 0; i < row.length; i++) {
        row[i] -= pentagonSum(row, i, d);
      }
    }

    /** What that product, whose terms stand at the pentagonal numbers, adds at i beside its first term. */
    private static long pentagonSum(long[] row, int i, int d) {
      long total = 0;
      for (int k = 1; d * (k * (3 * k - 1) / 2) <= i && k < TERMS; k++) {
        long sign = k % 2 == 0 ? 1 : -1;
        total += sign * at(row, i - d * (k * (3 * k - 1) / 2));
        total += sign * at(row, i - d * (k * (3 * k + 1) / 2));
      }
      return total;
    }

    static long at(long[] row, int i) {
      return i < 0 || i >= row.length ? 0 : row[i];
    }

    static void setDiscriminant(long[] row) {
      setOne(row);
      for (int i = 0; i < 24; i++) {
        timesEuler(row, 1);
      }
      moveUp(row, 1);
    }

    /** 0 if there is no such series. */
    static int eisensteinTimes(int weight) {
      switch (weight) {
        case 4:
          return 240;
        case 6:
          return -504;
        case 8:
          return 480;
        case 10:
          return -264;
        case 14:
          return -24;
        default:
          return 0;
      }
    }

    static void setEisenstein(long[] row, int weight) {
      setOne(row);
      for (int d = 1; d < row.length; d++) {
        long term = eisensteinTimes(weight) * Numbers.power(d, weight - 1);
        for (int i = d; i < row.length; i += d) {
          row[i] += term;
        }
      }
    }

    static void setImage(long[] into, long[] from, int weight, int n, int terms) {
      for (int m = 0; m < terms && m < into.length; m++) {
        into[m] = imageAt(from, weight, n, m);
      }
    }

    /** The coefficient for m of what the operator n gives. */
    static long imageAt(long[] row, int weight, int n, int m) {
      long total = 0;
      for (int d = 1; d <= n; d++) {
        if (n % d == 0 && m % d == 0) {
          total += Numbers.power(d, weight - 1) * at(row, m / d * (n / d));
        }
      }
      return total;
    }
  }

  private static final class Series {
    private final long[] row = new long[TERMS];
    private int weight;
    private int level;
    private int precision;

    void begin(int newWeight, int newLevel, int newPrecision) {
      weight = newWeight;
      level = newLevel;
      precision = newPrecision;
    }

    boolean tells(int n) {
      return n >= 0 && n < precision && n < TERMS;
    }

    long total() {
      long result = 0;
      for (int i = 0; i < precision && i < TERMS; i++) {
        result += row[i];
      }
      return result;
    }
  }

  /** The factors that are told for the next quotient of eta. */
  private static final class Quotient {
    private static final int MOST_FACTORS = 8;

    private final int[] numbers = new int[MOST_FACTORS];
    private final int[] powers = new int[MOST_FACTORS];
    private int count;
    private int level = 1;

    void clear() {
      count = 0;
      level = 1;
    }

    boolean isFull() {
      return count >= MOST_FACTORS;
    }

    void add(int d, int r) {
      if (count >= 0 && count < MOST_FACTORS) {
        numbers[count] = d;
        powers[count] = r;
        count++;
        level = Numbers.commonMultiple(level, d);
      }
    }

    int twiceWeight() {
      int total = 0;
      for (int i = 0; i < count && i < MOST_FACTORS; i++) {
        total += powers[i];
      }
      return total;
    }

    boolean canBeMade() {
      int twice = twiceWeight();
      int start = startTimes24();
      return count > 0
          && twice >= 0 && twice % 2 == 0 && twice / 2 <= MOST_WEIGHT
          && start >= 0 && start % 24 == 0 && start / 24 < TERMS;
    }

    boolean isWholeAtAll() {
      for (int c = 1; c <= level; c++) {
        if (level % c == 0 && orderAt(c) < 0) {
          return false;
        }
      }
      return true;
    }

    void fill(long[] row) {
      Rows.setOne(row);
      for (int i = 0; i < count && i < MOST_FACTORS; i++) {
        for (int j = 0; j < powers[i]; j++) {
          Rows.timesEuler(row, numbers[i]);
        }
        for (int j = 0; j < -powers[i]; j++) {
          Rows.overEuler(row, numbers[i]);
        }
      }
      Rows.moveUp(row, startTimes24() / 24);
    }

    private int startTimes24() {
      int total = 0;
      for (int i = 0; i < count && i < MOST_FACTORS; i++) {
        total += numbers[i] * powers[i];
      }
      return total;
    }

    /** The sum that decides at c, times the level to keep it whole. */
    private int orderAt(int c) {
      int total = 0;
      for (int i = 0; i < count && i < MOST_FACTORS; i++) {
        int common = Numbers.commonDivisor(numbers[i], c);
        if (numbers[i] > 0) {
          total += powers[i] * common * common * (level / numbers[i]);
        }
      }
      return total;
    }
  }

  /** The reduced forms of one discriminant, kept until another one is asked for. */
  private static final class Forms {
    // Of a up to 11, which 3 a a <= 400 allows, b has at most 2 a values.
    private static final int MOST_FORMS = 132;
    // Of discriminants from -60 on, 3 x x and 3 y y are at most 4 times the value of a form.
    private static final int FARTHEST = 10;

    private final int[] as = new int[MOST_FORMS];
    private final int[] bs = new int[MOST_FORMS];
    private final int[] cs = new int[MOST_FORMS];
    private int gathered;
    private int count;
    private int primitives;

    void gather(int discriminant) {
      if (discriminant == gathered) {
        return;
      }
      gathered = discriminant;
      count = 0;
      primitives = 0;
      for (int a = 1; 3 * a * a <= -discriminant && a < MOST_FORMS; a++) {
        for (int b = 1 - a; b <= a; b++) {
          if (Numbers.divides(4 * a, b * b - discriminant)) {
            addReduced(a, b, (b * b - discriminant) / (4 * a));
          }
        }
      }
    }

    private void addReduced(int a, int b, int c) {
      if (c < a || c == a && b < 0 || count < 0 || count >= MOST_FORMS) {
        return;
      }
      as[count] = a;
      bs[count] = b;
      cs[count] = c;
      primitives += isPrimitive(count) ? 1 : 0;
      count++;
    }

    private boolean isPrimitive(int i) {
      return i >= 0 && i < MOST_FORMS
          && Numbers.commonDivisor(Numbers.commonDivisor(as[i], bs[i]), cs[i]) == 1;
    }

    /** Where the primitive form of an index stands among all; -1 if there is none. */
    int placeOf(int index) {
      int passed = 0;
      for (int i = 0; i < count; i++) {
        if (isPrimitive(i)) {
          if (passed == index) {
            return i;
          }
          passed++;
        }
      }
      return -1;
    }

    int numberAt(int i, char which) {
      if (i < 0 || i >= MOST_FORMS) {
        return 0;
      }
      return which == 'a' ? as[i] : which == 'b' ? bs[i] : cs[i];
    }

    /** Fills the row of the theta series of a form. */
    void countPairs(long[] row, int i) {
      Arrays.fill(row, 0L);
      if (i < 0 || i >= MOST_FORMS) {
        return;
      }
      for (int x = -FARTHEST; x <= FARTHEST; x++) {
        for (int y = -FARTHEST; y <= FARTHEST; y++) {
          int value = as[i] * x * x + bs[i] * x * y + cs[i] * y * y;
          if (value >= 0 && value < row.length) {
            row[value]++;
          }
        }
      }
    }

    int weighedCount(int n) {
      if (n < 1) {
        return -1;
      }
      gather(-n);
      int total = 0;
      for (int i = 0; i < count && i < MOST_FORMS; i++) {
        total += weighedForm(as[i], bs[i], cs[i]);
      }
      return total;
    }

    private int weighedForm(int a, int b, int c) {
      if (a == c && b == 0) {
        return 6;
      }
      return a == c && a == b ? 4 : 12;
    }
  }

  private static final class Traces {
    private final long[] discriminants = new long[TERMS];
    private final long[] fours = new long[TERMS];
    private final long[] sixes = new long[TERMS];
    private final long[] first = new long[TERMS];
    private final long[] second = new long[TERMS];
    private boolean isReady;

    /**
     * Up to the weight 26 the basis has at most two forms, and two begin alike. To divide in longs that wrap would
     * be wrong; but the difference of the two is 1728 times the square of Discriminant's times the powers left, so
     * that the first and this second one, which begins a term later, span the same and need no division.
     */
    long byBasis(int weight, int n) {
      int rest = weight - 12;
      int powerOfSix = rest % 4 == 0 ? 0 : 1;
      int powerOfFour = (rest - 6 * powerOfSix) / 4;
      if (rest < 0 || powerOfFour < 0) {
        return 0;
      }
      prepare();
      int terms = 2 * n + 1;
      setForm(first, 1, powerOfFour, powerOfSix, terms);
      long result = Rows.imageAt(first, weight, n, 1);
      if (powerOfFour >= 3) {
        setForm(second, 2, powerOfFour - 3, powerOfSix, terms);
        result += Rows.imageAt(second, weight, n, 2) - Rows.at(first, 2) * Rows.imageAt(second, weight, n, 1);
      }
      return result;
    }

    private void prepare() {
      if (!isReady) {
        Rows.setDiscriminant(discriminants);
        Rows.setEisenstein(fours, 4);
        Rows.setEisenstein(sixes, 6);
        isReady = true;
      }
    }

    private void setForm(long[] row, int ofDiscriminant, int ofFour, int ofSix, int terms) {
      Rows.setOne(row);
      multiplyOften(row, discriminants, ofDiscriminant, terms);
      multiplyOften(row, fours, ofFour, terms);
      multiplyOften(row, sixes, ofSix, terms);
    }

    private void multiplyOften(long[] row, long[] other, int often, int terms) {
      for (int i = 0; i < often; i++) {
        Rows.multiplyBy(row, other, terms);
      }
    }

    long byClasses(int weight, int n, Forms reduced) {
      long total = 0;
      for (int t = 0; t * t <= 4 * n; t++) {
        // What is summed is the same for t and -t.
        long times = t == 0 ? 1 : 2;
        total += times * polynomial(weight, t, n) * reduced.weighedCount(4 * n - t * t);
      }
      long sumOfDivisors = 0;
      for (int d = 1; d <= n; d++) {
        if (n % d == 0) {
          total += 12 * Numbers.power(Math.min(d, n / d), weight - 1);
          sumOfDivisors += d;
        }
      }
      // Only the two sums together are sure to be a multiple of 24.
      return -total / 24 + (weight == 2 ? sumOfDivisors : 0);
    }

    private long polynomial(int weight, int t, int n) {
      long before = 1;
      long now = t * t - n;
      if (weight == 2) {
        return before;
      }
      for (int k = 4; k < weight; k += 2) {
        long next = now * (t * t - 2 * n) - n * n * before;
        before = now;
        now = next;
      }
      return now;
    }
  }

  private static final class Curve {
    private int a1;
    private int a2;
    private int a3;
    private int a4;
    private int a6;

    void begin(int new1, int new2, int new3, int new4, int new6) {
      a1 = new1;
      a2 = new2;
      a3 = new3;
      a4 = new4;
      a6 = new6;
    }

    /** How many pairs solve the curve modulo a prime; the row is one to work in, as long as the prime at least. */
    int solutions(int p, int[] roots) {
      int total = 0;
      if (p == 2) {
        for (int x = 0; x < 2; x++) {
          total += (isSolved(x, 0, 2) ? 1 : 0) + (isSolved(x, 1, 2) ? 1 : 0);
        }
        return total;
      }
      countRoots(p, roots);
      for (int x = 0; x < p; x++) {
        int middle = Numbers.mod(a1 * x + a3, p);
        // For an odd prime the curve is (2 y + middle) squared = this, and 2 y + middle is any number once.
        int square = Numbers.mod(middle * middle + 4 * Numbers.mod(right(x), p), p);
        total += square < roots.length ? roots[square] : 0;
      }
      return total;
    }

    /** Fills in for each number how many have it as their square modulo p. */
    private void countRoots(int p, int[] roots) {
      Arrays.fill(roots, 0);
      for (int z = 0; z < p; z++) {
        int square = Numbers.mod(z * z, p);
        if (square < roots.length) {
          roots[square]++;
        }
      }
    }

    boolean isSmooth(int p) {
      for (int x = 0; x < p; x++) {
        // Modulo an odd prime one y alone, half of what is less than 0, can have 2 y + a1 x + a3 divided by it.
        int half = Numbers.mod(-(a1 * x + a3), p) * ((p + 1) / 2);
        int from = p == 2 ? 0 : Numbers.mod(half, p);
        int to = p == 2 ? 1 : from;
        for (int y = from; y <= to; y++) {
          if (isSolved(x, y, p) && isFlat(x, y, p)) {
            return false;
          }
        }
      }
      return true;
    }

    private int right(int x) {
      return ((x + a2) * x + a4) * x + a6;
    }

    private boolean isSolved(int x, int y, int p) {
      return Numbers.divides(p, (y + a1 * x + a3) * y - right(x));
    }

    private boolean isFlat(int x, int y, int p) {
      return Numbers.divides(p, 2 * y + a1 * x + a3)
          && Numbers.divides(p, (3 * x + 2 * a2) * x + a4 - a1 * y);
    }
  }

  /** The bits of floating numbers, told by halving and doubling, which are exact. */
  private static final class Bits {
    private static final int MOST_HALVINGS = 1100;

    private Bits() {}

    /** Of a number from 1 on, as mean widths are. */
    static long ofDouble(double value) {
      double left = value;
      long exponent = 1023;
      for (int i = 0; i < MOST_HALVINGS && left >= 2.0; i++) {
        left = left / 2.0;
        exponent++;
      }
      return (exponent << 52) + (long) ((left - 1.0) * 4503599627370496.0);
    }

    /** Of a number above 0 and up to 1, as shares are. */
    static int ofFloat(float value) {
      float left = value;
      int exponent = 127;
      for (int i = 0; i < MOST_HALVINGS && left < 1.0f; i++) {
        left = left * 2.0f;
        exponent--;
      }
      return (exponent << 23) + (int) ((left - 1.0f) * 8388608.0f);
    }
  }
}
