import java.math.BigInteger;
import java.util.Arrays;

/**
 * Each sentence of the document's terms, in their order, with calls that would answer otherwise if it did not hold; all
 * that is due is known from tables or reckoned by hand. Sentences are told by their first words.
 */
final class TermsTest {
  private static final Checks checks = new Checks();
  private static String sentence = "";

  public static void main(String[] args) {
    cosets();
    turnsAndShifts();
    genera();
    quotientsOfFractions();
    stepsOfFractions();
    numbersOfSeries();
    eisensteins();
    discriminants();
    sumsAndProducts();
    raised();
    operators();
    bounds();
    equalOrCongruent();
    factors();
    quotientsOfEta();
    whole();
    forms();
    thetas();
    weighedCounts();
    cuspForms();
    traces();
    curves();
    good();
    exceptions();
    checks.finish();
  }

  private static void of(String words) {
    sentence = words;
  }

  private static void is(Object due, String what, Checks.Call call) {
    checks.answers("\"" + sentence + " ..\" " + what, due, call);
  }

  private static void throwing(Class<? extends RuntimeException> due, String what, Checks.Call call) {
    checks.refuses("\"" + sentence + " ..\" " + what, due, call);
  }

  private static void row(String what, Heckeworks mill, int series, long... due) {
    long[] got = new long[due.length];
    for (int i = 0; i < due.length; i++) {
      got[i] = mill.coefficient(series, i);
    }
    checks.row("\"" + sentence + " ..\" " + what, got, due);
  }

  // ---- Groups

  private static String allCosets(Heckeworks mill, int level) {
    StringBuilder text = new StringBuilder();
    for (int c = 0; c < level; c++) {
      for (int d = 0; d < level; d++) {
        int one = c;
        int two = d;
        Object number = Checks.outcome(() -> mill.coset(level, one, two));
        text.append(number instanceof Integer ? number : "-").append(d == level - 1 ? " / " : " ");
      }
    }
    return text.toString();
  }

  private static void cosets() {
    Heckeworks mill = new Heckeworks();
    of("For a level N from 1 to 60, the cosets are the pairs (c, d)");
    is("- 0 - 0 / 1 2 3 4 / - 5 - 5 / 1 4 3 2 / ", "of 4", () -> allCosets(mill, 4));
    is("- 0 0 / 1 2 3 / 1 3 2 / ", "of 3", () -> allCosets(mill, 3));
    is("- 0 0 0 0 / 1 2 3 4 5 / 1 4 2 5 3 / 1 3 5 2 4 / 1 5 4 3 2 / ", "of 5", () -> allCosets(mill, 5));
    of("a coset is told by the least of its pairs, by c, then by d");
    is("- 0 - - - 0 / 1 2 3 4 5 6 / - 7 - 8 - 9 / - 10 11 - 11 10 / - 9 - 8 - 7 / 1 6 5 4 3 2 / ", "of 6",
        () -> allCosets(mill, 6));
    is(9, "of (2, 1) of 8", () -> mill.coset(8, 2, 1));
    is(9, "of (6, 3), 3 times as much", () -> mill.coset(8, 6, 3));
    is(10, "of (6, 1), 3 times (2, 3)", () -> mill.coset(8, 6, 1));
    is(11, "of (4, 7), 7 times (4, 1)", () -> mill.coset(8, 4, 7));
    of("For N = 1 there is the coset (0, 0)");
    is("0 / ", "it alone", () -> allCosets(mill, 1));
    is(1, "the index", () -> mill.index(1));
    is(1, "the width", () -> mill.width(1, 0));
  }

  private static void turnsAndShifts() {
    Heckeworks mill = new Heckeworks();
    of("The turn leads from (c, d) to (d, -c)");
    // Without a coset that the turn, or the triple, leads to itself; more of them would make the genus less.
    for (int[] known : new int[][] {{11, 1}, {17, 1}, {19, 1}, {14, 1}, {15, 1}, {21, 1}, {24, 1}, {27, 1}, {49, 1}}) {
      is(known[1], "the genus of " + known[0], () -> mill.genus(known[0]));
    }
    of("the width of a cusp is the length of its cycle");
    int[][] widths = {{5, 1, 5}, {6, 1, 6, 3, 2}, {9, 1, 9, 1, 1}, {10, 1, 10, 5, 2}, {12, 1, 12, 3, 4, 3, 1},
      {16, 1, 16, 4, 1, 1, 1}};
    for (int[] known : widths) {
      for (int i = 1; i < known.length; i++) {
        int cusp = i - 1;
        is(known[i], "the cusp " + cusp + " of " + known[0], () -> mill.width(known[0], cusp));
      }
    }
  }

  private static void genera() {
    Heckeworks mill = new Heckeworks();
    int[] indices = {
      1, 3, 4, 6, 6, 12, 8, 12, 12, 18, 12, 24, 14, 24, 24, 24, 18, 36, 20, 36, 32, 36, 24, 48, 30, 42, 36, 48, 30, 72,
      32, 48, 48, 54, 48, 72, 38, 60, 56, 72, 42, 96, 44, 72, 72, 72, 48, 96, 56, 90, 72, 84, 54, 108, 72, 96, 80, 90,
      60, 144
    };
    int[] cusps = {
      1, 2, 2, 3, 2, 4, 2, 4, 4, 4, 2, 6, 2, 4, 4, 6, 2, 8, 2, 6, 4, 4, 2, 8, 6, 4, 6, 6, 2, 8, 2, 8, 4, 4, 4, 12, 2,
      4, 4, 8, 2, 8, 2, 6, 8, 4, 2, 12, 8, 12, 4, 6, 2, 12, 4, 8, 4, 4, 2, 12
    };
    int[] genera = {
      0, 0, 0, 0, 0, 0, 0, 0, 0, 0, 1, 0, 0, 1, 1, 0, 1, 0, 1, 1, 1, 2, 2, 1, 0, 2, 1, 2, 2, 3, 2, 1, 3, 3, 3, 1, 2, 4,
      3, 3, 3, 5, 3, 4, 3, 5, 4, 3, 1, 2, 5, 5, 4, 4, 5, 5, 5, 6, 5, 7
    };
    for (int i = 0; i < 60; i++) {
      int level = i + 1;
      of("The index is the number of cosets");
      is(indices[i], "of " + level, () -> mill.index(level));
      is(cusps[i], "the cusps of " + level, () -> mill.cusps(level));
      of("The genus is 1 plus the index divided by 12");
      is(genera[i], "of " + level, () -> mill.genus(level));
      of("Anew, they come by divisors");
      is(genera[i], "of " + level, () -> mill.genusAnew(level));
    }
  }

  // ---- Symbols

  private static void quotientsOfFractions() {
    Heckeworks mill = new Heckeworks();
    of("A fraction a / b, b above 0, is told by quotients: each one is what is left, rounded down");
    // 7 / 5 is 1, 2, 2; -7 / 5 is -2, 1, 1, 2; -1 / 2 is -1, 2; -1 / 3 is -1, 1, 2; 2 / 3 is 0, 1, 2.
    int[][] known = {{7, 5, 3}, {-7, 5, 4}, {1, 2, 2}, {-1, 2, 2}, {-1, 3, 3}, {2, 3, 3}, {-2, 3, 2}, {43, 30, 4}};
    for (int[] one : known) {
      is(one[2], one[0] + " / " + one[1], () -> mill.steps(one[0], one[1]));
    }
    of("what is left behind it is 1 divided by the rest, as long as there is one");
    int[][] whole = {{5, 1, 1}, {0, 3, 1}, {6, 3, 1}, {-6, 3, 1}, {-5, 1, 1}, {6, 4, 2}, {12, 8, 2}, {9, 6, 2}};
    for (int[] one : whole) {
      is(one[2], one[0] + " / " + one[1], () -> mill.steps(one[0], one[1]));
    }
  }

  private static void stepsOfFractions() {
    Heckeworks mill = new Heckeworks();
    of("The convergents have denominators: 1 for the first quotient");
    // 43 / 30 is 1, 2, 3, 4 with the denominators 1, 2, 7, 30: the pairs (1, 0), (2, 1), (7, -2), (30, 7).
    int[][] known = {{7, 1, 5, 0, 1}, {11, 1, 7, 7, 6}, {2, 1, 0, 1, 0}, {1, 0, 0, 0, 0}};
    for (int[] one : known) {
      for (int i = 0; i < 4; i++) {
        int step = i;
        is(one[i + 1], "the step " + i + " of 43 / 30 at " + one[0], () -> mill.step(one[0], 43, 30, step));
      }
    }
    of("The step i is the coset of the pair of the denominator i, first, and of that before it");
    int[][] pairs = {{1, 0}, {2, 1}, {7, -2}, {30, 7}};
    for (int level : new int[] {5, 13, 29, 37, 59, 60}) {
      for (int i = 0; i < 4; i++) {
        int step = i;
        int due = mill.coset(level, pairs[i][0], pairs[i][1]);
        is(due, "the step " + i + " of 43 / 30 at " + level, () -> mill.step(level, 43, 30, step));
        is(due, "the step " + i + " of 86 / 60, the same one", () -> mill.step(level, 86, 60, step));
        is(due, "the step " + i + " of 13 / 30, whose first quotient is 0", () -> mill.step(level, 13, 30, step));
        is(due, "the step " + i + " of -47 / 30, whose first quotient is -2", () -> mill.step(level, -47, 30, step));
      }
    }
  }

  // ---- Series

  private static void numbersOfSeries() {
    Heckeworks mill = new Heckeworks();
    of("At most 16 series are numbered from 0");
    for (int i = 0; i < 16; i++) {
      is(i, "the series " + i, mill::discriminant);
    }
    throwing(Checks.STATE, "a 17th", mill::discriminant);
    is(16, "so many", mill::series);
    is(0, "the coefficient for 0", () -> mill.coefficient(15, 0));
    is(1902838392L, "the coefficient for 63", () -> mill.coefficient(15, 63));
    throwing(Checks.MISSING, "the coefficient for 64", () -> mill.coefficient(15, 64));
    throwing(Checks.MISSING, "the coefficient for -1", () -> mill.coefficient(15, -1));
    of("all numbers are longs that wrap");
    Heckeworks other = new Heckeworks();
    other.eisenstein(14);
    BigInteger at61 = BigInteger.valueOf(61).pow(13).add(BigInteger.ONE).multiply(BigInteger.valueOf(-24));
    is(true, "this one leaves the longs", () -> at61.bitLength() > 63);
    is(at61.longValue(), "at 61", () -> other.coefficient(0, 61));
    other.product(0, 0);
    other.sum(0, 0, Integer.MAX_VALUE);
    is(at61.shiftLeft(31).longValue(), "2 to the power 31 times at 61", () -> other.coefficient(2, 61));
    is(other.coefficient(0, 61) << 31, "that is all the low bits", () -> other.coefficient(2, 61));
  }

  private static void eisensteins() {
    Heckeworks mill = new Heckeworks();
    of("Eisenstein's of the weight k is 1, and for n the number 240, -504, 480, -264, -24");
    long[][] known = {
      {4, 240, 1, 9, 28, 73, 126, 252}, {6, -504, 1, 33, 244, 1057, 3126, 8052},
      {8, 480, 1, 129, 2188, 16513, 78126, 282252}, {10, -264, 1, 513, 19684, 262657, 1953126, 10097892},
      {14, -24, 1, 8193, 1594324, 67117057, 1220703126, 13062296532L}
    };
    for (int i = 0; i < known.length; i++) {
      int series = i;
      long[] one = known[i];
      is(i, "of the weight " + one[0], () -> mill.eisenstein((int) one[0]));
      is(one[0], "its weight", () -> mill.weight(series));
      is(1, "of the weight " + one[0] + " for 0", () -> mill.coefficient(series, 0));
      for (int n = 1; n <= 6; n++) {
        int at = n;
        is(one[1] * one[n + 1], "of the weight " + one[0] + " for " + n, () -> mill.coefficient(series, at));
      }
    }
    of("Both have the level 1 and the precision 64");
    mill.discriminant();
    for (int i = 0; i <= known.length; i++) {
      int series = i;
      is(1, "the level of " + i, () -> mill.level(series));
      is(64, "the precision of " + i, () -> mill.precision(series));
    }
  }

  private static void discriminants() {
    Heckeworks mill = new Heckeworks();
    of("Discriminant's, of the weight 12, is that of the quotient of eta with 24 factors 1");
    mill.discriminant();
    is(12, "its weight", () -> mill.weight(0));
    row("it", mill, 0, 0, 1, -24, 252, -1472, 4830, -6048, -16744, 84480, -113643, -115920, 534612, -370944, -577738,
        401856, 1217160, 987136, -6905934, 2727432, 10661420, -7109760);
    mill.factor(1, 24);
    mill.eta();
    row("the quotient with the power 24 of 1", mill, 1, Mills.row(mill, 0));
    for (int i = 0; i < 8; i++) {
      mill.factor(1, 3);
    }
    mill.eta();
    row("the quotient with 8 powers 3 of 1", mill, 2, Mills.row(mill, 0));
  }

  private static void sumsAndProducts() {
    Heckeworks mill = new Heckeworks();
    of("The sum and the product of series have the lesser precision");
    mill.eisenstein(4);
    mill.operator(0, 9);
    mill.operator(0, 20);
    mill.raise(0, 4);
    mill.raise(0, 6);
    int[][] pairs = {{0, 1, 8, 1}, {1, 0, 8, 1}, {1, 2, 4, 1}, {2, 1, 4, 1}, {3, 4, 64, 12}, {4, 1, 8, 6}};
    for (int i = 0; i < pairs.length; i++) {
      int[] pair = pairs[i];
      Heckeworks to = i < 3 ? mill : anew();
      int sum = to.sum(pair[0], pair[1], 2);
      int product = to.product(pair[0], pair[1]);
      String name = " of " + pair[0] + " and " + pair[1];
      is(pair[2], "the precision of the sum" + name, () -> to.precision(sum));
      is(pair[2], "the precision of the product" + name, () -> to.precision(product));
      is(pair[3], "the level of the sum" + name, () -> to.level(sum));
      is(pair[3], "the level of the product" + name, () -> to.level(product));
      is(4, "the weight of the sum" + name, () -> to.weight(sum));
      is(8, "the weight of the product" + name, () -> to.weight(product));
    }
    Heckeworks other = anew();
    other.sum(0, 3, -5);
    row("the sum of E and -5 times E at 4", other, 5, -4, 240, 2160, 6720, 16320, 30240, 60480, 82560, 129600);
    other.product(0, 3);
    row("the product of E and E at 4", other, 6, 1, 240, 2160, 6720, 17760, 87840, 578880, 1695360, 4347360);
    other.sum(3, 0, -5);
    row("the sum of E at 4 and -5 times E", other, 7, -4, -1200, -10800, -33600, -87360);
  }

  /** E of the weight 4, the operators 9 and 20 of it, and it at 4 and at 6. */
  private static Heckeworks anew() {
    Heckeworks mill = new Heckeworks();
    mill.eisenstein(4);
    mill.operator(0, 9);
    mill.operator(0, 20);
    mill.raise(0, 4);
    mill.raise(0, 6);
    return mill;
  }

  private static void raised() {
    Heckeworks mill = anew();
    of("To raise a series by d sets its coefficients at n to n d, with others 0");
    row("E at 4", mill, 3, 1, 0, 0, 0, 240, 0, 0, 0, 2160, 0, 0, 0, 6720);
    mill.raise(2, 3);
    // The sum of the cubes of the divisors of 20 is 9198.
    row("the operator 20 at 3", mill, 5, 9198, 0, 0, 9198 * 240L, 0, 0, 9198 * 2160L, 0, 0, 9198 * 6720L, 0, 0);
    of("its level and its precision are d times as great, the latter at most 64");
    is(3, "the level", () -> mill.level(5));
    is(12, "the precision 3 times 4", () -> mill.precision(5));
    is(4, "the level 4", () -> mill.level(3));
    is(64, "the precision 4 times 64", () -> mill.precision(3));
    mill.raise(3, 15);
    is(60, "the level 15 times 4", () -> mill.level(6));
    mill.raise(3, 6);
    is(24, "the level 6 times 4", () -> mill.level(7));
    mill.raise(2, 16);
    is(64, "the precision 16 times 4", () -> mill.precision(8));
    mill.raise(2, 15);
    is(60, "the precision 15 times 4", () -> mill.precision(9));
    is(0, "at its end", () -> mill.coefficient(9, 59));
    throwing(Checks.MISSING, "behind its end", () -> mill.coefficient(9, 60));
  }

  private static void operators() {
    Heckeworks mill = new Heckeworks();
    of("The operator n, without a common divisor with the level, gives a coefficient for m");
    mill.discriminant();
    mill.operator(0, 2);
    row("2 of Discriminant's is -24 times it", mill, 1, 0, -24, 576, -6048, 35328, -115920);
    mill.operator(0, 6);
    row("6 is the two of 2 and 3", mill, 2, 0, -6048, -24 * -6048, 252 * -6048, -1472 * -6048);
    mill.theta(-4, 0);
    mill.operator(3, 3);
    row("3 of x x + y y", mill, 4, 2, 0, 0, 8, 0, 0, 8, 0, 0, 0, 0, 0, 8);
    mill.eisenstein(4);
    mill.operator(5, 6);
    row("6 of E, at 0 all divisors of 6", mill, 6, 252, 252 * 240, 252 * 2160, 252 * 6720, 252 * 17520);
    throwing(Checks.UNSUPPORTED, "2 at the level 4", () -> mill.operator(3, 2));
    of("its precision is the precision less 1, divided by n, rounded down, plus 1");
    int[][] known = {{1, 64}, {2, 32}, {3, 22}, {7, 10}, {9, 8}, {31, 3}, {32, 2}};
    for (int[] one : known) {
      int series = mill.series();
      mill.operator(0, one[0]);
      is(one[1], "of 64 and " + one[0], () -> mill.precision(series));
    }
    // 32 is the precision of 1 still.
    int series = mill.series();
    mill.operator(1, 31);
    is(2, "of 32 and 31", () -> mill.precision(series));
    mill.operator(1, 32);
    is(1, "of 32 and 32", () -> mill.precision(series + 1));
  }

  // ---- Bounds

  private static void bounds() {
    Heckeworks mill = new Heckeworks();
    of("The bound of a weight and a level is the weight times the index of the level, divided by 12");
    mill.eisenstein(4);
    mill.raise(0, 2);
    mill.raise(0, 3);
    mill.eisenstein(6);
    mill.raise(3, 2);
    mill.eisenstein(10);
    mill.eisenstein(14);
    mill.theta(-11, 0);
    mill.theta(-7, 0);
    mill.raise(6, 5);
    int[][] known = {
      {0, 0, 0}, {0, 1, 1}, {0, 2, 1}, {1, 2, 4}, {2, 1, 4}, {3, 3, 0}, {3, 4, 1}, {5, 5, 0}, {6, 6, 1}, {7, 7, 1},
      {8, 8, 0}, {6, 9, 7}, {9, 9, 7}
    };
    for (int[] one : known) {
      is(one[2], "of " + one[0] + " and " + one[1], () -> mill.bound(one[0], one[1]));
    }
  }

  private static void equalOrCongruent() {
    Heckeworks mill = new Heckeworks();
    of("Two series of one weight are equal, or congruent modulo m, if their coefficients are");
    mill.eisenstein(4);
    mill.eisenstein(6);
    mill.product(0, 0);
    mill.product(2, 0);
    mill.product(1, 1);
    mill.discriminant();
    mill.sum(4, 5, 1728);
    is(true, "E of 4 cubed, and that of 6 squared with 1728 times Discriminant's", () -> mill.isEqual(3, 6));
    is(false, "without it", () -> mill.isEqual(3, 4));
    is(true, "without it modulo 1728", () -> mill.isCongruent(3, 4, 1728));
    is(true, "without it modulo 27", () -> mill.isCongruent(3, 4, 27));
    is(false, "without it modulo 81", () -> mill.isCongruent(3, 4, 81));
    // Of the weight 12 and the level 2, with the bound 3: one begins at 4, the other one at 3, and one is 0 all over.
    Heckeworks other = new Heckeworks();
    Mills.tell(other, 2, 24, 2, 24, 2, 24, 1, -24, 1, -24);
    other.eta();
    Mills.tell(other, 2, 24, 2, 24, 1, -24);
    other.eta();
    other.sum(0, 0, -1);
    is(true, "another one behind the bound alone", () -> other.isEqual(0, 2));
    is(true, "another one behind the bound alone, modulo 2", () -> other.isCongruent(0, 2, 2));
    is(false, "another one at the bound", () -> other.isEqual(1, 2));
    is(false, "another one at the bound, modulo 2", () -> other.isCongruent(1, 2, 2));
    of("this can be told only if both have all of these coefficients");
    mill.operator(5, 63);
    mill.operator(5, 32);
    mill.operator(8, 2);
    is(true, "just enough", () -> mill.isEqual(7, 7));
    is(false, "just enough of one", () -> mill.isCongruent(8, 4, 2));
    throwing(Checks.UNSUPPORTED, "one too few", () -> mill.isEqual(9, 5));
    throwing(Checks.UNSUPPORTED, "one too few of the other", () -> mill.isEqual(5, 9));
    throwing(Checks.UNSUPPORTED, "one too few, modulo 2", () -> mill.isCongruent(9, 5, 2));
  }

  // ---- Quotients of eta

  private static void factors() {
    Heckeworks mill = new Heckeworks();
    of("A quotient has factors, at most 8: a number d from 1 to 30, and a power r from -24 to 24, not 0");
    int[][] wrong = {{0, 1}, {31, 1}, {1, 25}, {1, -25}, {1, 0}};
    for (int[] one : wrong) {
      throwing(Checks.ARGUMENT, "not " + one[0] + ", " + one[1], () -> mill.factor(one[0], one[1]));
    }
    int[][] right = {{1, 1}, {30, 1}, {1, 24}, {1, -24}, {1, -1}, {30, -1}, {2, 1}, {3, 1}};
    for (int i = 0; i < right.length; i++) {
      int[] one = right[i];
      is(i + 1, "the factor " + one[0] + ", " + one[1], () -> mill.factor(one[0], one[1]));
    }
    throwing(Checks.STATE, "a 9th one", () -> mill.factor(1, 1));
    of("those with one d all count");
    Heckeworks other = Mills.told(1, 2, 11, 1, 1, -24, 11, 1, 1, 24);
    other.eta();
    row("the form of the level 11", other, 0, 0, 1, -2, -1, 2, 1, 2, -2, 0, -2, -2, 1, -2, 4, 4, -1, -4, -2, 4, 0, 2);
    is(2, "its weight", () -> other.weight(0));
  }

  private static void made(String what, int[] factors, int weight, int level, long... due) {
    Heckeworks mill = Mills.told(factors);
    is(0, what, mill::eta);
    is(weight, what + ", weight", () -> mill.weight(0));
    is(level, what + ", level", () -> mill.level(0));
    is(64, what + ", precision", () -> mill.precision(0));
    row(what, mill, 0, due);
  }

  private static void quotientsOfEta() {
    of("Its weight is half the sum of all r, and it begins at the sum of all d r divided by 24");
    made("4 and 20 of 1", new int[] {1, 4, 1, 20}, 12, 1, 0, 1, -24);
    made("24 of 2", new int[] {2, 24}, 12, 2, 0, 0, 1, 0, -24);
    made("24 of 3 less 24 of 1", new int[] {3, 24, 1, -24}, 0, 3, 0, 0, 1, 24, 324);
    throwing(Checks.UNSUPPORTED, "a half weight", Mills.told(24, 1)::eta);
    throwing(Checks.UNSUPPORTED, "it begins at a part of 1", Mills.told(1, 2)::eta);
    of("it is the product, over factors and n from 1 on, of the power r of 1 less the variable");
    made("4 of 6", new int[] {6, 4}, 2, 6, 0, 1, 0, 0, 0, 0, 0, -4, 0, 0, 0, 0, 0, 2, 0, 0, 0, 0, 0, 8, 0, 0, 0, 0, 0,
        -5);
    made("x x + y y + z z + u u", new int[] {2, 20, 1, -8, 4, -8}, 2, 4, 1, 8, 24, 32, 24, 48, 96, 64, 24, 104, 144);
    made("24 of 2 by 24 of 1", new int[] {2, 24, 1, -24}, 0, 2, 0, 1, 24, 300, 2624, 18126);
    of("Its level is the least common multiple of all d, at most 60");
    made("of 4 and 6", new int[] {4, 6, 6, -4, 4, 12, 6, 4}, 9, 12, 0, 0, 0, 1, 0, 0, 0, -18);
    made("of 12, 15 and 20", new int[] {12, 2, 12, -2, 15, 2, 15, -2, 20, 1, 20, -1}, 0, 60, 1, 0, 0, 0, 0);
    Heckeworks mill = Mills.told(12, 2, 15, 1);
    throwing(Checks.UNSUPPORTED, "of 12, 15 and 8", () -> mill.factor(8, 1));
    is(3, "of 12, 15 and 20 still", () -> mill.factor(20, 1));
  }

  private static void whole() {
    of("It is whole at c, a divisor of the level, if the sum over factors of r times the square");
    // At 1 and 2, of 2 r and -s: r / 2 - s and 2 r - s; of 4 r, 2 s, 1 t at 2: r + 2 s + t.
    int[][] are = {{}, {2, 2, 1, -1}, {1, 2, 2, -1}, {1, 4, 2, -2}, {2, 5, 1, -2, 4, -2}, {4, 8, 1, -2}, {6, 6, 1, -1}};
    for (int[] factors : are) {
      is(true, Arrays.toString(factors), Mills.told(factors)::isWhole);
    }
    // Not at 1; not at 2; not at 2 of 1, 2 and 4; not at 4; not at 3 of 1, 3 and 9.
    int[][] areNot = {
      {2, 1, 1, -1}, {1, 1, 2, -1}, {4, 2, 2, -3, 1, 2}, {1, 8, 4, -3}, {9, 1, 3, -2, 1, 2}, {6, 5, 1, -1}
    };
    for (int[] factors : areNot) {
      is(false, Arrays.toString(factors), Mills.told(factors)::isWhole);
    }
  }

  // ---- Quadratic forms

  private static void forms() {
    Heckeworks mill = new Heckeworks();
    int[][] reduced = {
      {-3, 1, 1, 1}, {-4, 1, 0, 1}, {-8, 1, 0, 2}, {-15, 1, 1, 4, 2, 1, 2}, {-20, 1, 0, 5, 2, 2, 3},
      {-24, 1, 0, 6, 2, 0, 3}, {-39, 1, 1, 10, 2, -1, 5, 2, 1, 5, 3, 3, 4}, {-55, 1, 1, 14, 2, -1, 7, 2, 1, 7, 4, 3, 4},
      {-47, 1, 1, 12, 2, -1, 6, 2, 1, 6, 3, -1, 4, 3, 1, 4}
    };
    of("A form (a, b, c) of the discriminant D = b b - 4 a c, below 0 and at least -400, a above 0");
    theseForms(mill, reduced);
    of("It is primitive if a, b and c have no common divisor but 1");
    theseForms(mill, new int[][] {
      {-12, 1, 0, 3}, {-16, 1, 0, 4}, {-27, 1, 1, 7}, {-28, 1, 0, 7}, {-36, 1, 0, 9, 2, 2, 5}, {-60, 1, 0, 15, 3, 0, 5}
    });
    of("Reduced primitive forms of D are ordered by a, then by b");
    theseForms(mill, new int[][] {
      {-56, 1, 0, 14, 2, 0, 7, 3, -2, 5, 3, 2, 5}, {-96, 1, 0, 24, 3, 0, 8, 4, 4, 7, 5, 2, 5},
      {-84, 1, 0, 21, 2, 2, 11, 3, 0, 7, 5, 4, 5}
    });
  }

  private static void theseForms(Heckeworks mill, int[][] all) {
    for (int[] one : all) {
      is((one.length - 1) / 3, "of " + one[0], () -> mill.forms(one[0]));
      for (int i = 0; i < one.length - 1; i++) {
        int index = i / 3;
        char which = (char) ('a' + i % 3);
        is(one[i + 1], which + " of the form " + index + " of " + one[0], () -> mill.formAt(one[0], index, which));
      }
    }
  }

  private static void thetas() {
    Heckeworks mill = new Heckeworks();
    of("A theta series has for n how many pairs of whole numbers x, y");
    mill.theta(-3, 0);
    row("x x + x y + y y", mill, 0, 1, 6, 0, 6, 6, 0, 0, 12, 0, 6, 0, 0, 6, 12);
    mill.theta(-4, 0);
    row("x x + y y", mill, 1, 1, 4, 4, 0, 4, 8, 0, 0, 4, 4, 8, 0, 0, 8);
    mill.theta(-23, 1);
    row("2 x x - x y + 3 y y", mill, 2, 1, 0, 2, 2, 2, 0, 2, 0, 2, 2, 0, 0, 4);
    mill.theta(-20, 1);
    row("2 x x + 2 x y + 3 y y", mill, 3, 1, 0, 2, 4, 0, 0, 0, 4, 2, 0);
    mill.theta(-60, 1);
    row("3 x x + 5 y y", mill, 4, 1, 0, 0, 2, 0, 2, 0, 0, 4, 0, 0, 0, 2);
    // At the end, where x or y is up to 9: 61 is 9 9 - 9 4 + 4 4.
    int[][] last = {
      {0, 49, 18}, {0, 57, 12}, {0, 60, 0}, {0, 61, 12}, {0, 62, 0}, {0, 63, 12}, {1, 49, 4}, {1, 50, 12}, {1, 58, 8},
      {1, 61, 8}, {1, 62, 0}, {1, 63, 0}
    };
    for (int[] one : last) {
      is(one[2], "the series " + one[0] + " at " + one[1], () -> mill.coefficient(one[0], one[1]));
    }
    int[] levels = {3, 4, 23, 20, 60};
    for (int i = 0; i < levels.length; i++) {
      int series = i;
      is(1, "its weight", () -> mill.weight(series));
      is(levels[i], "its level", () -> mill.level(series));
      is(64, "its precision", () -> mill.precision(series));
    }
  }

  private static void weighedCounts() {
    Heckeworks mill = new Heckeworks();
    of("The weighed count of n, twelve times: -1 for 0");
    is(-1, "0", () -> mill.weighed(0));
    of("otherwise 12 for each reduced form of the discriminant -n, primitive or not");
    // Twelve times Hurwitz' class numbers 0, 0, 1/3, 1/2, 0, 0, 1, 1, 0, 0, 1, 4/3, 0, 0, 2, 3/2, .. of 1, 2, 3, 4, ..
    int[] counts = {
      0, 0, 4, 6, 0, 0, 12, 12, 0, 0, 12, 16, 0, 0, 24, 18, 0, 0, 12, 24, 0, 0, 36, 24, 0, 0, 16, 24, 0, 0, 36, 36, 0,
      0, 24, 30, 0, 0, 48, 24, 0, 0, 12, 48, 0, 0, 60, 40
    };
    for (int i = 0; i < counts.length; i++) {
      int n = i + 1;
      is(counts[i], "of " + n, () -> mill.weighed(n));
    }
  }

  // ---- Traces

  private static void cuspForms() {
    Heckeworks mill = new Heckeworks();
    of("For an even weight k from 2 to 26 and n from 1 to 20, the cusp forms of the level 1 have the basis");
    int[] counts = {0, 0, 0, 0, 0, 1, 0, 1, 1, 1, 1, 2, 1};
    for (int i = 0; i < counts.length; i++) {
      int weight = 2 * i + 2;
      is(counts[i], "how many there are of the weight " + weight, () -> mill.trace(weight, 1));
      is(counts[i] == 0, "whether there are none of the weight " + weight, () -> mill.trace(weight, 20) == 0);
    }
    // Those of the weights 16, 18, 20, 22 and 26 are Discriminant's times one of Eisenstein's.
    int[][] single = {{12, 0}, {16, 4}, {18, 6}, {20, 8}, {22, 10}, {26, 14}};
    for (int[] one : single) {
      Heckeworks other = new Heckeworks();
      other.discriminant();
      if (one[1] > 0) {
        other.eisenstein(one[1]);
        other.product(0, 1);
      }
      for (int n = 1; n <= 20; n++) {
        int at = n;
        is(other.coefficient(one[1] > 0 ? 2 : 0, n), one[0] + ", " + n, () -> mill.trace(one[0], at));
      }
    }
  }

  private static void traces() {
    Heckeworks mill = new Heckeworks();
    long[][] known = {
      {12, 1, -24, 252, -1472, 4830}, {16, 1, 216, -3348, 13888, 52110}, {18, 1, -528, -4284, 147712, -1025850},
      {20, 1, 456, 50652, -316352, -2377410}, {22, 1, -288, -128844, -2014208, 21640950},
      {24, 2, 1080, 339480, 25326656}, {26, 1, -48, -195804, -33552128, -741989850}
    };
    for (long[] one : known) {
      int weight = (int) one[0];
      for (int i = 1; i < one.length; i++) {
        int n = i;
        of("The trace of the operator n on these is told by a basis");
        is(one[i], weight + ", " + n, () -> mill.trace(weight, n));
        of("anew by classes: less the sum over all t whose square is at most 4 n of P times the weighed count");
        is(one[i], weight + ", " + n, () -> mill.traceAnew(weight, n));
      }
    }
    of("plus, for k = 2, the sum of the divisors of n");
    for (int n = 1; n <= 20; n++) {
      for (int weight : new int[] {2, 4, 6, 8, 10, 14}) {
        int at = n;
        is(0, weight + ", " + n, () -> mill.traceAnew(weight, at));
      }
    }
  }

  // ---- Curves

  private static void curves() {
    Heckeworks mill = new Heckeworks();
    of("At most 6 curves are numbered from 0: y y + a1 x y + a3 y = x x x + a2 x x + a4 x + a6");
    int[][] numbers = {
      {0, -1, 1, -10, -20}, {0, 0, 1, -1, 0}, {1, 0, 1, 4, -6}, {0, 0, 0, -1, 0}, {1, 1, 1, -10, -10}, {0, 1, 1, -2, 0}
    };
    for (int i = 0; i < numbers.length; i++) {
      int[] k = numbers[i];
      is(i, "the curve " + i, () -> mill.curve(k[0], k[1], k[2], k[3], k[4]));
    }
    throwing(Checks.STATE, "a 7th one", () -> mill.curve(0, 0, 0, 0, 1));
    // Of the levels 11, 37, 14, 32, 15 and 389, at 2, 3, 5, 7, 11, 13, 17, 19, 23, 29, 31, 37.
    int[][] known = {
      {-2, -1, 1, -2, 1, 4, -2, 0, -1, 0, 7, 3}, {-2, -3, -2, -1, -5, -2, 0, 0, 2, 6, -4, -1},
      {-1, -2, 0, 1, 0, -4, 6, 2, 0, -6, -4, 2}, {0, 0, -2, 0, 0, 6, 2, 0, 0, -10, 0, -2},
      {-1, -1, 1, 0, -4, -2, 2, 4, 0, -2, 0, -10}, {-2, -2, -3, -5, -4, -3, -6, 5, -4, -6, 4, -8}
    };
    of("For a prime p up to 97, the number of a curve is p less how many pairs x, y from 0 to p - 1 solve it");
    for (int i = 0; i < known.length; i++) {
      for (int j = 0; j < known[i].length; j++) {
        int curve = i;
        int p = Mills.PRIMES[j];
        is(known[i][j], "the curve " + i + " at " + p, () -> mill.points(curve, p));
      }
    }
    for (int p : new int[] {-2, 0, 1, 4, 51, 91, 98, 101}) {
      throwing(Checks.ARGUMENT, "not " + p, () -> mill.points(0, p));
    }
  }

  private static void good() {
    Heckeworks mill = new Heckeworks();
    of("It is good at p if none of these has both 2 y + a1 x + a3 and 3 x x + 2 a2 x + a4 - a1 y divided by p");
    int[][] numbers = {
      {0, -1, 1, -10, -20}, {0, 0, 1, -1, 0}, {1, 0, 1, 4, -6}, {0, 0, 0, -1, 0}, {1, 1, 1, -10, -10}, {0, 0, 0, 0, 0}
    };
    // The primes at which they are bad: those that divide the levels; the last one is bad at all.
    int[][] bad = {{11}, {37}, {2, 7}, {2}, {3, 5}, Mills.PRIMES};
    for (int i = 0; i < numbers.length; i++) {
      int[] k = numbers[i];
      int curve = i;
      mill.curve(k[0], k[1], k[2], k[3], k[4]);
      for (int p : Mills.PRIMES) {
        boolean isBad = Arrays.stream(bad[i]).anyMatch(one -> one == p);
        is(!isBad, "the curve " + i + " at " + p, () -> mill.isGood(curve, p));
      }
    }
  }

  // ---- Exceptions

  private static void exceptions() {
    of("A method that throws an exception changes nothing");
    Heckeworks mill = Mills.some();
    String before = Mills.shown(Mills::some);
    throwing(Checks.ARGUMENT, "an Eisenstein's", () -> mill.eisenstein(12));
    throwing(Checks.UNSUPPORTED, "a factor", () -> mill.factor(7, 1));
    throwing(Checks.BOUNDS, "a product", () -> mill.product(0, 16));
    is(Mills.SOME, "as many series", mill::series);
    is(true, "all is shown as before", () -> Mills.shown(() -> {
      Heckeworks other = Mills.some();
      Checks.outcome(() -> other.eisenstein(12));
      Checks.outcome(() -> other.factor(7, 1));
      Checks.outcome(() -> other.product(0, 16));
      return other;
    }).equals(before));
    of("If several exceptions apply, the one that is listed first is thrown");
    Heckeworks full = Mills.full();
    throwing(Checks.ARGUMENT, "eisenstein", () -> full.eisenstein(5));
    throwing(Checks.ARGUMENT, "factor", () -> full.factor(31, 1));
    throwing(Checks.UNSUPPORTED, "factor of a level", () -> full.factor(7, 1));
    throwing(Checks.BOUNDS, "raise", () -> full.raise(16, 31));
    throwing(Checks.ARGUMENT, "raise by 31", () -> full.raise(Mills.FOUR_AT_30, 31));
    throwing(Checks.UNSUPPORTED, "raise to a level", () -> full.raise(Mills.FOUR_AT_30, 30));
    throwing(Checks.ARGUMENT, "theta", () -> full.theta(-401, 5));
    throwing(Checks.BOUNDS, "theta of no form", () -> full.theta(-400, 5));
    throwing(Checks.UNSUPPORTED, "theta of a level", () -> full.theta(-400, 3));
    throwing(Checks.STATE, "theta", () -> full.theta(-4, 0));
    throwing(Checks.ARGUMENT, "curve", () -> full.curve(1000, 0, 0, 0, 0));
    throwing(Checks.BOUNDS, "isCongruent", () -> full.isCongruent(16, 0, 1));
    throwing(Checks.ARGUMENT, "isCongruent modulo 1", () -> full.isCongruent(Mills.FOUR, Mills.SIX, 1));
  }
}
