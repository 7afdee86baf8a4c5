/**
 * Each sentence of each promise, in the document's order: what is returned or made, and for each exception a call just
 * inside of what it forbids and one just outside. What the terms mean is in TermsTest.
 */
final class PromisesTest {
  private static final Checks checks = new Checks();
  private static int promise;

  public static void main(String[] args) {
    newObject();
    indexAndCoset();
    cuspsAndWidth();
    bothGenera();
    stepsAndStep();
    eisensteinAndDiscriminant();
    factorAndWhole();
    eta();
    product();
    sum();
    raise();
    operator();
    whatSeriesAre();
    coefficient();
    bound();
    isEqual();
    isCongruent();
    formsAndFormAt();
    theta();
    weighed();
    traces();
    curve();
    pointsAndGood();
    parts();
    seriesAndAll();
    shares();
    means();
    sound();
    checks.finish();
  }

  private static void of(int number) {
    promise = number;
  }

  private static void is(Object due, String sentence, Checks.Call call) {
    checks.answers("promise " + promise + ", \"" + sentence + "\"", due, call);
  }

  private static void argument(String sentence, Checks.Call call) {
    checks.refuses("promise " + promise + ", \"Throws .. if " + sentence + "\"", Checks.ARGUMENT, call);
  }

  private static void outside(String sentence, Checks.Call call) {
    checks.refuses("promise " + promise + ", \"Throws .. if " + sentence + "\"", Checks.BOUNDS, call);
  }

  private static void unsupported(String sentence, Checks.Call call) {
    checks.refuses("promise " + promise + ", \"Throws .. if " + sentence + "\"", Checks.UNSUPPORTED, call);
  }

  private static void state(String sentence, Checks.Call call) {
    checks.refuses("promise " + promise + ", \"Throws .. if " + sentence + "\"", Checks.STATE, call);
  }

  private static Heckeworks filled() {
    Heckeworks mill = new Heckeworks();
    for (int i = 0; i < 16; i++) {
      mill.discriminant();
    }
    return mill;
  }

  private static void newObject() {
    Heckeworks mill = new Heckeworks();
    of(1);
    is(0, "without series", mill::series);
    outside("there is no series 0", () -> mill.weight(0));
    outside("there is no curve 0", () -> mill.isGood(0, 2));
    is(0, "the first curve", () -> mill.curve(0, 0, 0, 0, 0));
    is(0, "the first series", mill::discriminant);
  }

  private static void indexAndCoset() {
    Heckeworks mill = new Heckeworks();
    of(2);
    is(12, "Returns the number of cosets", () -> mill.index(11));
    is(1, "Returns the number of cosets", () -> mill.index(1));
    is(144, "Returns the number of cosets", () -> mill.index(60));
    argument("the level is not 1 to 60", () -> mill.index(0));
    argument("the level is not 1 to 60", () -> mill.index(61));
    of(3);
    is(10, "Returns the number of the coset", () -> mill.coset(11, 3, 5));
    is(0, "Returns the number of the coset", () -> mill.coset(11, 0, 7));
    is(10, "taken modulo the level", () -> mill.coset(11, 3 - 22, 5 + 33));
    is(10, "taken modulo the level", () -> mill.coset(11, -8, -6));
    argument("the level is not 1 to 60", () -> mill.coset(0, 0, 1));
    argument("the level is not 1 to 60", () -> mill.coset(61, 0, 1));
    unsupported("the pair is none of a coset", () -> mill.coset(12, 2, 4));
    unsupported("the pair is none of a coset", () -> mill.coset(11, 22, 11));
    is(0, "Returns the number of the coset", () -> mill.coset(1, 22, 11));
  }

  private static void cuspsAndWidth() {
    Heckeworks mill = new Heckeworks();
    of(4);
    is(2, "Returns the number of cusps", () -> mill.cusps(11));
    is(3, "Returns the number of cusps", () -> mill.cusps(4));
    is(12, "Returns the number of cusps", () -> mill.cusps(60));
    argument("the level is not 1 to 60", () -> mill.cusps(0));
    argument("the level is not 1 to 60", () -> mill.cusps(61));
    of(5);
    is(1, "Returns the width", () -> mill.width(11, 0));
    is(11, "Returns the width", () -> mill.width(11, 1));
    is(1, "Returns the width", () -> mill.width(4, 2));
    is(15, "Returns the width", () -> mill.width(60, 4));
    argument("the level is not 1 to 60", () -> mill.width(0, 0));
    argument("the level is not 1 to 60", () -> mill.width(61, 0));
    outside("there is no such cusp", () -> mill.width(11, 2));
    outside("there is no such cusp", () -> mill.width(11, -1));
  }

  private static void bothGenera() {
    Heckeworks mill = new Heckeworks();
    int[][] known = {{1, 0}, {10, 0}, {11, 1}, {22, 2}, {23, 2}, {30, 3}, {37, 2}, {42, 5}, {59, 5}, {60, 7}};
    for (int[] one : known) {
      of(6);
      is(one[1], "Returns the genus of " + one[0], () -> mill.genus(one[0]));
      of(7);
      is(one[1], "Returns the genus of " + one[0], () -> mill.genusAnew(one[0]));
    }
    for (int level : new int[] {0, 61}) {
      of(6);
      argument("the level is not 1 to 60", () -> mill.genus(level));
      of(7);
      argument("the level is not 1 to 60", () -> mill.genusAnew(level));
    }
  }

  private static void stepsAndStep() {
    Heckeworks mill = new Heckeworks();
    of(8);
    is(3, "Returns the number of quotients", () -> mill.steps(355, 113));
    is(19, "Returns the number of quotients", () -> mill.steps(4181, 6765));
    is(1, "Returns the number of quotients", () -> mill.steps(-9999, 1));
    is(1, "Returns the number of quotients", () -> mill.steps(9999, 9999));
    int[][] wrong = {{-10000, 1}, {10000, 1}, {0, 0}, {0, 10000}};
    for (int[] one : wrong) {
      of(8);
      argument("a number is out of range", () -> mill.steps(one[0], one[1]));
      of(9);
      argument("a number is out of range", () -> mill.step(11, one[0], one[1], 0));
    }
    is(1, "Returns the coset", () -> mill.step(11, 355, 113, 0));
    is(9, "Returns the coset", () -> mill.step(11, 355, 113, 1));
    is(6, "Returns the coset", () -> mill.step(11, 355, 113, 2));
    argument("a number is out of range, also that of the level", () -> mill.step(0, 355, 113, 0));
    argument("a number is out of range, also that of the level", () -> mill.step(61, 355, 113, 0));
    outside("there is no such step", () -> mill.step(11, 355, 113, 3));
    outside("there is no such step", () -> mill.step(11, 355, 113, -1));
  }

  private static void eisensteinAndDiscriminant() {
    Heckeworks mill = new Heckeworks();
    of(10);
    int[] weights = {4, 6, 8, 10, 14};
    int[] firsts = {240, -504, 480, -264, -24};
    for (int i = 0; i < weights.length; i++) {
      int series = i;
      is(i, "Returns the number of the series", () -> mill.eisenstein(weights[series]));
      is(firsts[i], "Makes Eisenstein's series", () -> mill.coefficient(series, 1));
      is(weights[i], "Makes Eisenstein's series", () -> mill.weight(series));
    }
    for (int weight : new int[] {2, 3, 5, 7, 9, 12, 13, 15, 16}) {
      argument("it is none of 4, 6, 8, 10, 14", () -> mill.eisenstein(weight));
    }
    of(11);
    is(5, "Returns the number of the series", mill::discriminant);
    is(-24, "Makes Discriminant's series", () -> mill.coefficient(5, 2));
    is(12, "Makes Discriminant's series", () -> mill.weight(5));
    Heckeworks full = filled();
    state("there are 16 series", full::discriminant);
    of(10);
    state("there are 16 series", () -> full.eisenstein(4));
  }

  private static void factorAndWhole() {
    Heckeworks mill = new Heckeworks();
    of(13);
    is(true, "Returns true if so, also without factors", mill::isWhole);
    of(12);
    is(1, "Returns how many factors it has", () -> mill.factor(1, -24));
    of(13);
    is(false, "Returns whether the next quotient of eta is whole", mill::isWhole);
    of(12);
    is(2, "Returns how many factors it has", () -> mill.factor(30, 24));
    of(13);
    is(false, "Returns whether the next quotient of eta is whole", mill::isWhole);
    of(12);
    is(3, "Returns how many factors it has", () -> mill.factor(1, 24));
    of(13);
    is(true, "Returns whether the next quotient of eta is whole", mill::isWhole);
    of(12);
    int[][] wrong = {{0, 1}, {31, 1}, {1, -25}, {1, 25}, {1, 0}};
    for (int[] one : wrong) {
      argument("a number is out of range", () -> mill.factor(one[0], one[1]));
    }
    unsupported("the level would be greater than 60", () -> mill.factor(7, 1));
    is(4, "Returns how many factors it has", () -> mill.factor(20, 1));
    for (int i = 5; i <= 8; i++) {
      is(i, "Returns how many factors it has", () -> mill.factor(1, 1));
    }
    state("it has 8", () -> mill.factor(1, 1));
  }

  private static void eta() {
    Heckeworks mill = new Heckeworks();
    of(14);
    unsupported("it has no factors", mill::eta);
    Mills.tell(mill, 1, 2, 11, 2);
    is(0, "Returns the number of the series", mill::eta);
    is(-2, "Makes the quotient of eta", () -> mill.coefficient(0, 2));
    is(11, "Makes the quotient of eta", () -> mill.level(0));
    unsupported("it has no factors", mill::eta);
    is(1, "the next one has no factors then", () -> mill.factor(29, 12));
    unsupported("where it begins is not a whole number from 0 on", mill::eta);
    is(2, "it still has them", () -> mill.factor(29, 12));
    is(1, "Returns the number of the series", mill::eta);
    is(29, "Makes the quotient of eta", () -> mill.level(1));
    // The weight is a half, and below 0; it begins at a 12th, and below 0; the weight is 61; it begins at 64.
    int[][] wrong = {
      {24, 1}, {24, 2, 12, -4}, {1, 2}, {24, -2, 1, 24}, {1, 24, 1, 24, 1, 24, 1, 24, 1, 24, 24, 2},
      {30, 24, 30, 24, 4, 24}
    };
    for (int[] factors : wrong) {
      unsupported("its weight or where it begins ..", Mills.told(factors)::eta);
    }
    Heckeworks full = filled();
    full.factor(1, 24);
    state("there are 16 series", full::eta);
    is(2, "it still has its factor", () -> full.factor(1, 1));
  }

  private static void product() {
    Heckeworks mill = Mills.some();
    of(15);
    is(13, "Returns the number of the series", () -> mill.product(Mills.FOUR, Mills.SIX));
    is(-264, "Makes the product of two series", () -> mill.coefficient(13, 1));
    is(10, "Makes the product of two series", () -> mill.weight(13));
    is(14, "another one, or the same", () -> mill.product(Mills.THETA_7, Mills.THETA_7));
    is(4, "another one, or the same", () -> mill.coefficient(14, 1));
    outside("there is no such series, for either", () -> mill.product(15, 0));
    outside("there is no such series, for either", () -> mill.product(0, 15));
    outside("there is no such series, for either", () -> mill.product(-1, 0));
    outside("there is no such series, for either", () -> mill.product(0, -1));
    unsupported("the weight would be greater than 60", () -> mill.product(Mills.SIXTY, Mills.THETA_7));
    unsupported("the level greater than 60", () -> mill.product(Mills.THETA_7, Mills.THETA_11));
    is(15, "Returns the number of the series", () -> mill.product(Mills.SIXTY, Mills.WEIGHT_0));
    state("there are 16 series", () -> mill.product(0, 0));
  }

  private static void sum() {
    Heckeworks mill = Mills.some();
    of(16);
    is(13, "Returns the number of the series", () -> mill.sum(Mills.FOUR, Mills.FOUR_AT_2, -3));
    is(-2, "Makes the sum of a series and another one times a number", () -> mill.coefficient(13, 0));
    is(2160 - 3 * 240, "Makes the sum of a series and another one times a number", () -> mill.coefficient(13, 2));
    is(14, "the other one, or the same", () -> mill.sum(Mills.SIX, Mills.SIX, 1));
    is(-1008, "the other one, or the same", () -> mill.coefficient(14, 1));
    outside("there is no such series, for either", () -> mill.sum(15, 0, 1));
    outside("there is no such series, for either", () -> mill.sum(0, 15, 1));
    outside("there is no such series, for either", () -> mill.sum(-1, 0, 1));
    outside("there is no such series, for either", () -> mill.sum(0, -1, 1));
    unsupported("the weights are not the same", () -> mill.sum(Mills.FOUR, Mills.SIX, 1));
    unsupported("the level would be greater than 60", () -> mill.sum(Mills.THETA_7, Mills.THETA_11, 1));
    is(15, "Returns the number of the series", () -> mill.sum(Mills.TWELVE, Mills.TOLD_1, 0));
    state("there are 16 series", () -> mill.sum(0, 0, 1));
  }

  private static void raise() {
    Heckeworks mill = Mills.some();
    of(17);
    is(13, "Returns the number of the new series", () -> mill.raise(Mills.FOUR_AT_2, 30));
    is(240, "Raises a series", () -> mill.coefficient(13, 60));
    is(60, "Raises a series", () -> mill.level(13));
    is(14, "Returns the number of the new series", () -> mill.raise(Mills.SIX, 1));
    outside("there is no such series", () -> mill.raise(15, 1));
    outside("there is no such series", () -> mill.raise(-1, 1));
    argument("it is out of range", () -> mill.raise(Mills.FOUR, 0));
    argument("it is out of range", () -> mill.raise(Mills.FOUR, 31));
    unsupported("the level would be greater than 60", () -> mill.raise(Mills.FOUR_AT_30, 3));
    is(15, "Returns the number of the new series", () -> mill.raise(Mills.FOUR_AT_30, 2));
    state("there are 16 series", () -> mill.raise(0, 1));
  }

  private static void operator() {
    Heckeworks mill = Mills.some();
    of(18);
    is(13, "Returns the number of the new series", () -> mill.operator(Mills.TWELVE, 3));
    is(-24 * 252, "Makes what the operator n gives", () -> mill.coefficient(13, 2));
    is(22, "Makes what the operator n gives", () -> mill.precision(13));
    is(14, "Returns the number of the new series", () -> mill.operator(Mills.FOUR, 63));
    outside("there is no such series", () -> mill.operator(15, 1));
    outside("there is no such series", () -> mill.operator(-1, 1));
    argument("it is out of range", () -> mill.operator(Mills.FOUR, 0));
    argument("it is out of range", () -> mill.operator(Mills.FOUR, 64));
    unsupported("n and the level have a common divisor", () -> mill.operator(Mills.FOUR_AT_30, 21));
    unsupported("the weight is 0", () -> mill.operator(Mills.WEIGHT_0, 3));
    is(15, "Returns the number of the new series", () -> mill.operator(Mills.FOUR_AT_30, 49));
    state("there are 16 series", () -> mill.operator(0, 1));
  }

  private static void whatSeriesAre() {
    Heckeworks mill = Mills.some();
    int[][] known = {
      {Mills.FOUR, 4, 1, 64}, {Mills.FOUR_AT_2, 4, 2, 64}, {Mills.THETA_7, 1, 7, 64}, {Mills.WEIGHT_0, 0, 2, 64},
      {Mills.SIXTY, 60, 1, 64}, {Mills.TOLD_2, 12, 1, 2}, {Mills.TOLD_1, 12, 1, 1}, {Mills.FOUR_AT_30, 4, 30, 64}
    };
    for (int[] one : known) {
      of(19);
      is(one[1], "Returns the weight", () -> mill.weight(one[0]));
      of(20);
      is(one[2], "Returns the level", () -> mill.level(one[0]));
      of(21);
      is(one[3], "Returns the number of coefficients that are told", () -> mill.precision(one[0]));
    }
    for (int series : new int[] {-1, Mills.SOME}) {
      of(19);
      outside("there is no such series", () -> mill.weight(series));
      of(20);
      outside("there is no such series", () -> mill.level(series));
      of(21);
      outside("there is no such series", () -> mill.precision(series));
    }
  }

  private static void coefficient() {
    Heckeworks mill = Mills.some();
    of(22);
    is(1, "Returns the coefficient", () -> mill.coefficient(Mills.FOUR, 0));
    is(240L * 260408, "Returns the coefficient", () -> mill.coefficient(Mills.FOUR, 63));
    is(1902838392L, "Returns the coefficient", () -> mill.coefficient(Mills.TOLD_2, 1));
    outside("there is no such series", () -> mill.coefficient(Mills.SOME, 0));
    outside("there is no such series", () -> mill.coefficient(-1, 0));
    int[][] wrong = {{Mills.FOUR, -1}, {Mills.FOUR, 64}, {Mills.TOLD_2, 2}, {Mills.TOLD_1, 1}};
    for (int[] one : wrong) {
      checks.refuses("promise 22, \"Throws .. if it is not told\"", Checks.MISSING,
          () -> mill.coefficient(one[0], one[1]));
    }
  }

  private static void bound() {
    Heckeworks mill = Mills.some();
    of(23);
    is(0, "Returns the bound", () -> mill.bound(Mills.FOUR, Mills.FOUR));
    is(1, "Returns the bound", () -> mill.bound(Mills.FOUR, Mills.FOUR_AT_2));
    is(24, "Returns the bound", () -> mill.bound(Mills.FOUR_AT_30, Mills.FOUR_AT_2));
    is(5, "Returns the bound", () -> mill.bound(Mills.SIXTY, Mills.SIXTY));
    is(1, "Returns the bound, told or not", () -> mill.bound(Mills.TOLD_1, Mills.TOLD_2));
    outside("there is no such series, for either", () -> mill.bound(Mills.SOME, 0));
    outside("there is no such series, for either", () -> mill.bound(0, Mills.SOME));
    outside("there is no such series, for either", () -> mill.bound(-1, 0));
    outside("there is no such series, for either", () -> mill.bound(0, -1));
    unsupported("the weights are not the same", () -> mill.bound(Mills.FOUR, Mills.SIX));
    unsupported("the level would be greater than 60", () -> mill.bound(Mills.THETA_7, Mills.THETA_11));
  }

  private static void isEqual() {
    Heckeworks mill = Mills.some();
    mill.product(Mills.FOUR, Mills.FOUR);
    mill.eisenstein(8);
    of(24);
    is(true, "Returns true if so", () -> mill.isEqual(Mills.SOME, Mills.SOME + 1));
    is(true, "Returns true if so, of one", () -> mill.isEqual(Mills.FOUR, Mills.FOUR));
    is(false, "Returns true if so", () -> mill.isEqual(Mills.FOUR, Mills.FOUR_AT_2));
    is(false, "Returns true if so", () -> mill.isEqual(Mills.TWELVE, Mills.TOLD_2));
    outside("there is no such series, for either", () -> mill.isEqual(Mills.SOME + 2, 0));
    outside("there is no such series, for either", () -> mill.isEqual(0, Mills.SOME + 2));
    outside("there is no such series, for either", () -> mill.isEqual(-1, 0));
    outside("there is no such series, for either", () -> mill.isEqual(0, -1));
    unsupported("they have no bound", () -> mill.isEqual(Mills.FOUR, Mills.SIX));
    unsupported("they have no bound", () -> mill.isEqual(Mills.THETA_7, Mills.THETA_11));
    unsupported("one has not all of the coefficients", () -> mill.isEqual(Mills.TWELVE, Mills.TOLD_1));
    unsupported("one has not all of the coefficients", () -> mill.isEqual(Mills.TOLD_1, Mills.TWELVE));
  }

  private static void isCongruent() {
    Heckeworks mill = Mills.some();
    of(25);
    is(true, "Returns true if so", () -> mill.isCongruent(Mills.FOUR, Mills.FOUR_AT_2, 240));
    is(true, "Returns true if so", () -> mill.isCongruent(Mills.FOUR, Mills.FOUR_AT_2, 2));
    is(false, "Returns true if so", () -> mill.isCongruent(Mills.FOUR, Mills.FOUR_AT_2, 9999));
    is(true, "Returns true if so, of one", () -> mill.isCongruent(Mills.FOUR, Mills.FOUR, 9999));
    outside("there is no such series, for either", () -> mill.isCongruent(Mills.SOME, 0, 2));
    outside("there is no such series, for either", () -> mill.isCongruent(0, Mills.SOME, 2));
    outside("there is no such series, for either", () -> mill.isCongruent(-1, 0, 2));
    outside("there is no such series, for either", () -> mill.isCongruent(0, -1, 2));
    argument("it is out of range", () -> mill.isCongruent(Mills.FOUR, Mills.FOUR, 1));
    argument("it is out of range", () -> mill.isCongruent(Mills.FOUR, Mills.FOUR, 10000));
    unsupported("they have no bound", () -> mill.isCongruent(Mills.FOUR, Mills.SIX, 2));
    unsupported("they have no bound", () -> mill.isCongruent(Mills.THETA_7, Mills.THETA_11, 2));
    unsupported("one has not all of the coefficients", () -> mill.isCongruent(Mills.TWELVE, Mills.TOLD_1, 2));
    unsupported("one has not all of the coefficients", () -> mill.isCongruent(Mills.TOLD_1, Mills.TWELVE, 2));
  }

  private static void formsAndFormAt() {
    Heckeworks mill = new Heckeworks();
    of(26);
    int[][] known = {{-3, 1}, {-4, 1}, {-23, 3}, {-71, 7}, {-163, 1}, {-399, 16}, {-400, 4}};
    for (int[] one : known) {
      is(one[1], "Returns the number of forms of " + one[0], () -> mill.forms(one[0]));
    }
    for (int discriminant : new int[] {-401, -404, -2, -1, 0, 1, 4, -5, -6, -9, -10}) {
      of(26);
      argument("there is no such discriminant", () -> mill.forms(discriminant));
      of(27);
      argument("there is no such discriminant", () -> mill.formAt(discriminant, 0, 'a'));
    }
    int[] second = {2, -1, 3};
    for (char letter = 'a'; letter <= 'c'; letter++) {
      char which = letter;
      is(second[letter - 'a'], "Returns the number", () -> mill.formAt(-23, 1, which));
    }
    for (char which : new char[] {'`', 'd', 'A', 0}) {
      argument("there is no such letter", () -> mill.formAt(-23, 1, which));
    }
    outside("there is no such form", () -> mill.formAt(-23, 3, 'a'));
    outside("there is no such form", () -> mill.formAt(-23, -1, 'a'));
    is(2, "Returns the number", () -> mill.formAt(-23, 2, 'a'));
  }

  private static void theta() {
    Heckeworks mill = new Heckeworks();
    of(28);
    is(0, "Returns the number of the series", () -> mill.theta(-23, 1));
    is(2, "Makes the theta series", () -> mill.coefficient(0, 3));
    is(23, "Makes the theta series", () -> mill.level(0));
    is(1, "Returns the number of the series", () -> mill.theta(-60, 1));
    for (int discriminant : new int[] {-401, -404, -2, -1, 0, 1, 4, -5, -6}) {
      argument("there is no such discriminant", () -> mill.theta(discriminant, 0));
    }
    outside("there is no such form", () -> mill.theta(-23, 3));
    outside("there is no such form", () -> mill.theta(-23, -1));
    unsupported("the level would be greater than 60", () -> mill.theta(-63, 0));
    unsupported("the level would be greater than 60", () -> mill.theta(-400, 0));
    Heckeworks full = filled();
    state("there are 16 series", () -> full.theta(-3, 0));
  }

  private static void weighed() {
    Heckeworks mill = new Heckeworks();
    of(29);
    int[][] known = {{0, -1}, {1, 0}, {3, 4}, {4, 6}, {7, 12}, {12, 16}, {16, 18}, {23, 36}, {399, 192}, {400, 90}};
    for (int[] one : known) {
      is(one[1], "Returns the count of " + one[0], () -> mill.weighed(one[0]));
    }
    argument("it is out of range", () -> mill.weighed(-1));
    argument("it is out of range", () -> mill.weighed(401));
  }

  private static void traces() {
    Heckeworks mill = new Heckeworks();
    long[][] known = {
      {2, 1, 0}, {12, 2, -24}, {12, 20, -7109760}, {24, 2, 1080}, {26, 1, 1}, {26, 2, -48}, {14, 20, 0}
    };
    for (long[] one : known) {
      of(30);
      is(one[2], "Returns the trace", () -> mill.trace((int) one[0], (int) one[1]));
      of(31);
      is(one[2], "Returns the trace", () -> mill.traceAnew((int) one[0], (int) one[1]));
    }
    int[][] wrong = {{0, 1}, {28, 1}, {13, 1}, {25, 1}, {12, 0}, {12, 21}};
    for (int[] one : wrong) {
      of(30);
      argument("a number is out of range", () -> mill.trace(one[0], one[1]));
      of(31);
      argument("a number is out of range", () -> mill.traceAnew(one[0], one[1]));
    }
  }

  private static void curve() {
    Heckeworks mill = new Heckeworks();
    of(32);
    is(0, "Returns its number", () -> mill.curve(999, -999, 999, -999, 999));
    is(1, "Returns its number", () -> mill.curve(-999, 999, -999, 999, -999));
    for (int number : new int[] {-1000, 1000}) {
      argument("a number is out of range", () -> mill.curve(number, 0, 0, 0, 0));
      argument("a number is out of range", () -> mill.curve(0, number, 0, 0, 0));
      argument("a number is out of range", () -> mill.curve(0, 0, number, 0, 0));
      argument("a number is out of range", () -> mill.curve(0, 0, 0, number, 0));
      argument("a number is out of range", () -> mill.curve(0, 0, 0, 0, number));
    }
    for (int i = 2; i < 6; i++) {
      is(i, "Returns its number", () -> mill.curve(0, 0, 0, -1, 0));
    }
    state("there are 6", () -> mill.curve(0, 0, 0, -1, 0));
  }

  private static void pointsAndGood() {
    Heckeworks mill = new Heckeworks();
    mill.curve(0, -1, 1, -10, -20);
    mill.curve(0, 0, 0, -1, 0);
    of(33);
    is(-2, "Returns the number", () -> mill.points(0, 2));
    is(-7, "Returns the number", () -> mill.points(0, 97));
    is(6, "Returns the number", () -> mill.points(1, 13));
    of(34);
    is(true, "Returns true if so", () -> mill.isGood(0, 2));
    is(false, "Returns true if so", () -> mill.isGood(0, 11));
    is(false, "Returns true if so", () -> mill.isGood(1, 2));
    is(true, "Returns true if so", () -> mill.isGood(1, 97));
    for (int curve : new int[] {-1, 2}) {
      of(33);
      outside("there is no such curve", () -> mill.points(curve, 2));
      of(34);
      outside("there is no such curve", () -> mill.isGood(curve, 2));
    }
    for (int p : new int[] {-3, 0, 1, 4, 9, 95, 98, 99, 101}) {
      of(33);
      argument("it is no prime up to 97", () -> mill.points(0, p));
      of(34);
      argument("it is no prime up to 97", () -> mill.isGood(0, p));
    }
  }

  /** The form of the level 11 belongs to the first curve; the second one is bad at 2, and has 0 at 3 and -2 at 5. */
  private static void parts() {
    Heckeworks mill = Mills.told(1, 2, 11, 2);
    mill.eta();
    mill.curve(0, -1, 1, -10, -20);
    mill.curve(0, 0, 0, -1, 0);
    mill.sum(0, 0, -1);
    mill.operator(0, 32);
    mill.operator(0, 21);
    of(35);
    is(0, "Returns the prime, 0 if there is none", () -> mill.parts(0, 0));
    is(2, "Returns the first prime", () -> mill.parts(0, 1));
    is(3, "at which the curve is good", () -> mill.parts(1, 0));
    is(5, "another one than the number of the curve", () -> mill.parts(1, 1));
    is(2, "the precision that tells no prime", () -> mill.precision(2));
    is(0, "and the coefficient of the series is told", () -> mill.parts(0, 2));
    is(4, "the precision that tells 2 and 3", () -> mill.precision(3));
    is(2, "and the coefficient of the series is told", () -> mill.parts(0, 3));
    outside("there is no such curve or series", () -> mill.parts(2, 0));
    outside("there is no such curve or series", () -> mill.parts(-1, 0));
    outside("there is no such curve or series", () -> mill.parts(0, 4));
    outside("there is no such curve or series", () -> mill.parts(0, -1));
  }

  private static void seriesAndAll() {
    Heckeworks mill = new Heckeworks();
    of(37);
    is(0, "Returns the sum", mill::allCoefficients);
    for (int i = 0; i < 3; i++) {
      of(36);
      is(i, "Returns the number of series", mill::series);
      mill.theta(-4, 0);
      of(37);
      is(193 * (i + 1), "Returns the sum", mill::allCoefficients);
    }
    mill.sum(0, 1, -2);
    is(193 * 2, "Returns the sum", mill::allCoefficients);
    mill.operator(0, 63);
    is(193 * 2 + 6, "Returns the sum, of what is told alone", mill::allCoefficients);
    of(36);
    is(5, "Returns the number of series", mill::series);
    Heckeworks full = filled();
    is(16, "Returns the number of series", full::series);
  }

  private static void shares() {
    Heckeworks mill = new Heckeworks();
    of(38);
    checks.refuses("promise 38, \"Throws .. if there are no series\"", Checks.ARITHMETIC, mill::toldShare);
    of(41);
    is(0, "Returns the bits of the float, 0 if there are no series", mill::toldBits);
    int told = 0;
    int[] operators = {0, 63, 2, 3, 5, 31, 7, 11, 13, 17};
    for (int i = 0; i < operators.length; i++) {
      if (i == 0) {
        mill.discriminant();
      } else {
        mill.operator(0, operators[i]);
      }
      told += i == 0 ? 64 : 63 / operators[i] + 1;
      float due = (float) told / (float) (64 * (i + 1));
      of(38);
      is(due, "Returns the sum of all precisions divided by 64 times the number of series", mill::toldShare);
      of(41);
      is(Float.floatToIntBits(due), "Returns the bits of the float", mill::toldBits);
    }
  }

  private static void means() {
    Heckeworks mill = new Heckeworks();
    int[][] known = {
      {1, 1, 1}, {2, 3, 2}, {7, 8, 2}, {10, 18, 4}, {11, 12, 2}, {27, 36, 6}, {50, 90, 12}, {60, 144, 12}
    };
    for (int[] one : known) {
      double due = (double) one[1] / (double) one[2];
      of(39);
      is(due, "Returns the index divided by the number of cusps", () -> mill.meanWidth(one[0]));
      of(40);
      is(Double.doubleToLongBits(due), "Returns the bits of the double", () -> mill.widthBits(one[0]));
    }
    for (int level : new int[] {0, 61}) {
      of(39);
      argument("the level is not 1 to 60", () -> mill.meanWidth(level));
      of(40);
      argument("the level is not 1 to 60", () -> mill.widthBits(level));
    }
  }

  private static void sound() {
    of(42);
    is(true, "Returns true if so", new Heckeworks()::isSound);
    is(true, "Returns true if so", Mills.some()::isSound);
    is(true, "Returns true if so", Mills.full()::isSound);
    is(true, "Returns true if so", filled()::isSound);
  }
}
