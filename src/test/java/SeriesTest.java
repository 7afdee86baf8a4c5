/** Promises 10, 11 and 15 to 22. */
final class SeriesTest {
  private static final Checks checks = new Checks();

  public static void main(String[] args) {
    eisensteins();
    discriminant();
    products();
    productsAtTheEdges();
    sums();
    raises();
    operators();
    operatorsAtTheEdges();
    told();
    noSeries();
    sixteen();
    checks.finish();
  }

  private static long[] row(Heckeworks mill, int series) {
    return firsts(mill, series, mill.precision(series));
  }

  private static long[] firsts(Heckeworks mill, int series, int count) {
    long[] found = new long[count];
    for (int i = 0; i < found.length; i++) {
      found[i] = mill.coefficient(series, i);
    }
    return found;
  }

  private static void described(String what, Heckeworks mill, int series, int weight, int level, int precision) {
    checks.answers(what + ", weight", weight, () -> mill.weight(series));
    checks.answers(what + ", level", level, () -> mill.level(series));
    checks.answers(what + ", precision", precision, () -> mill.precision(series));
  }

  /** How many series there are and what they make up; RefusalsTest compares all of them. */
  private static String state(Heckeworks mill) {
    return mill.series() + " " + mill.allCoefficients() + " " + mill.toldBits();
  }

  private static void refusesAndKeeps(
      Heckeworks mill, String what, Class<? extends RuntimeException> want, Checks.Call call) {
    String before = state(mill);
    checks.refuses(what, want, call);
    checks.same(what + " changes nothing", state(mill), before);
  }

  private static void eisensteins() {
    long[][] known = {
      {4, 1, 240, 2160, 6720, 17520}, {6, 1, -504, -16632, -122976, -532728}, {8, 1, 480, 61920, 1050240, 7926240},
      {10, 1, -264, -135432, -5196576, -69341448}, {14, 1, -24, -196632, -38263776, -1610809368}
    };
    Heckeworks mill = new Heckeworks();
    PlainMill plain = new PlainMill();
    for (int i = 0; i < known.length; i++) {
      int series = i;
      int weight = (int) known[i][0];
      checks.answers("promise 10: eisenstein(" + weight + ")", i, () -> mill.eisenstein(weight));
      described("promise 10: eisenstein(" + weight + ")", mill, i, weight, 1, 64);
      checks.row("promise 10: eisenstein(" + weight + ")", firsts(mill, i, 5),
          java.util.Arrays.copyOfRange(known[i], 1, 6));
      plain.eisenstein(weight);
      for (int n = 0; n < 64; n++) {
        int at = n;
        checks.answers("promise 10: wraps, " + weight + " at " + n, plain.coefficient(i, n),
            () -> mill.coefficient(series, at));
      }
    }
    for (int weight : new int[] {0, 2, 5, 12, 16, -4, Integer.MIN_VALUE, Integer.MAX_VALUE}) {
      refusesAndKeeps(mill, "promise 10: eisenstein(" + weight + ")", Checks.ARGUMENT, () -> mill.eisenstein(weight));
    }
  }

  private static void discriminant() {
    Heckeworks mill = new Heckeworks();
    checks.answers("promise 11: discriminant()", 0, mill::discriminant);
    described("promise 11: discriminant()", mill, 0, 12, 1, 64);
    checks.row("promise 11: discriminant()", firsts(mill, 0, 13),
        0, 1, -24, 252, -1472, 4830, -6048, -16744, 84480, -113643, -115920, 534612, -370944);
    checks.answers("promise 11: discriminant() at 63", 1902838392L, () -> mill.coefficient(0, 63));
    checks.answers("promise 11: discriminant() again", 1, mill::discriminant);
  }

  private static void products() {
    Heckeworks mill = new Heckeworks();
    mill.eisenstein(4);
    mill.eisenstein(6);
    checks.answers("promise 15: product(0, 0)", 2, () -> mill.product(0, 0));
    described("promise 15: product(0, 0)", mill, 2, 8, 1, 64);
    mill.eisenstein(8);
    checks.row("promise 15: 4 by 4 is 8", row(mill, 2), row(mill, 3));
    mill.product(1, 0);
    mill.eisenstein(10);
    checks.row("promise 15: 6 by 4 is 10", row(mill, 4), row(mill, 5));
    mill.raise(0, 4);
    mill.raise(1, 6);
    checks.answers("promise 15: product(6, 7)", 8, () -> mill.product(6, 7));
    described("promise 15: product(6, 7)", mill, 8, 10, 12, 64);
    checks.row("promise 15: product(6, 7)", firsts(mill, 8, 11), 1, 0, 0, 0, 240, 0, -504, 0, 2160, 0, -120960);
    mill.operator(0, 5);
    checks.answers("promise 15: product(9, 6)", 10, () -> mill.product(9, 6));
    described("promise 15: product(9, 6)", mill, 10, 8, 4, 13);
    checks.row("promise 15: an operator's image", firsts(mill, 9, 3), 126, 30240, 272160);
    checks.row("promise 15: product(9, 6)", firsts(mill, 10, 5), 126, 30240, 272160, 846720, 2237760);
  }

  private static void productsAtTheEdges() {
    Heckeworks mill = new Heckeworks();
    mill.discriminant();
    mill.product(0, 0);
    mill.product(1, 1);
    checks.answers("promise 15: the weight 60", 3, () -> mill.product(2, 0));
    described("promise 15: the weight 60", mill, 3, 60, 1, 64);
    checks.row("promise 15: the weight 60", firsts(mill, 3, 8), 0, 0, 0, 0, 0, 1, -120, 7020);
    mill.theta(-7, 0);
    mill.theta(-11, 0);
    mill.theta(-20, 0);
    mill.theta(-15, 0);
    refusesAndKeeps(mill, "promise 15: the weight 61", Checks.UNSUPPORTED, () -> mill.product(3, 4));
    refusesAndKeeps(mill, "promise 15: the level 77", Checks.UNSUPPORTED, () -> mill.product(4, 5));
    refusesAndKeeps(mill, "promise 15: product(-1, 0)", Checks.BOUNDS, () -> mill.product(-1, 0));
    refusesAndKeeps(mill, "promise 15: product(0, 8)", Checks.BOUNDS, () -> mill.product(0, 8));
    refusesAndKeeps(mill, "promise 15: product(3, MIN)", Checks.BOUNDS, () -> mill.product(3, Integer.MIN_VALUE));
    checks.answers("promise 15: the level 60", 8, () -> mill.product(6, 7));
    described("promise 15: the level 60", mill, 8, 2, 60, 64);
  }

  private static void sums() {
    Heckeworks mill = new Heckeworks();
    mill.eisenstein(4);
    mill.raise(0, 2);
    mill.operator(0, 9);
    checks.answers("promise 16: sum(0, 1, -1)", 3, () -> mill.sum(0, 1, -1));
    described("promise 16: sum(0, 1, -1)", mill, 3, 4, 2, 64);
    checks.row("promise 16: sum(0, 1, -1)", firsts(mill, 3, 6), 0, 240, 1920, 6720, 15360, 30240);
    checks.answers("promise 16: sum(2, 0, -757)", 4, () -> mill.sum(2, 0, -757));
    described("promise 16: sum(2, 0, -757)", mill, 4, 4, 1, 8);
    checks.row("promise 16: sum(2, 0, -757)", row(mill, 4), 0, 0, 0, 0, 0, 0, 0, 0);
    checks.answers("promise 16: sum(1, 1, 0)", 5, () -> mill.sum(1, 1, 0));
    checks.row("promise 16: sum(1, 1, 0)", row(mill, 5), row(mill, 1));
    mill.sum(0, 0, Integer.MIN_VALUE);
    mill.sum(6, 6, Integer.MAX_VALUE);
    checks.row("promise 16: it wraps", firsts(mill, 7, 4),
        (1L - (1L << 31)) << 31, (1L - (1L << 31)) * 240 << 31, (1L - (1L << 31)) * 2160 << 31,
        (1L - (1L << 31)) * 6720 << 31);
    mill.eisenstein(6);
    mill.raise(0, 7);
    mill.raise(0, 9);
    refusesAndKeeps(mill, "promise 16: other weights", Checks.UNSUPPORTED, () -> mill.sum(0, 8, 1));
    refusesAndKeeps(mill, "promise 16: the level 63", Checks.UNSUPPORTED, () -> mill.sum(9, 10, 1));
    refusesAndKeeps(mill, "promise 16: sum(11, 8, 1)", Checks.BOUNDS, () -> mill.sum(11, 8, 1));
    refusesAndKeeps(mill, "promise 16: sum(0, -1, 1)", Checks.BOUNDS, () -> mill.sum(0, -1, 1));
  }

  private static void raises() {
    Heckeworks mill = new Heckeworks();
    mill.eisenstein(6);
    checks.answers("promise 17: raise(0, 3)", 1, () -> mill.raise(0, 3));
    described("promise 17: raise(0, 3)", mill, 1, 6, 3, 64);
    checks.row("promise 17: raise(0, 3)", firsts(mill, 1, 10), 1, 0, 0, -504, 0, 0, -16632, 0, 0, -122976);
    checks.answers("promise 17: raise(0, 1)", 2, () -> mill.raise(0, 1));
    checks.row("promise 17: raise(0, 1)", row(mill, 2), row(mill, 0));
    mill.operator(0, 13);
    described("promise 17: what is raised", mill, 3, 6, 1, 5);
    checks.answers("promise 17: raise(3, 4)", 4, () -> mill.raise(3, 4));
    described("promise 17: raise(3, 4)", mill, 4, 6, 4, 20);
    checks.answers("promise 17: coefficient(4, 16)", -532728L * 371294, () -> mill.coefficient(4, 16));
    checks.answers("promise 17: coefficient(4, 19)", 0, () -> mill.coefficient(4, 19));
    checks.refuses("promise 17: coefficient(4, 20)", Checks.MISSING, () -> mill.coefficient(4, 20));
    checks.answers("promise 17: raise(1, 20)", 5, () -> mill.raise(1, 20));
    described("promise 17: raise(1, 20)", mill, 5, 6, 60, 64);
    checks.answers("promise 17: raise(0, 30)", 6, () -> mill.raise(0, 30));
    checks.answers("promise 17: raise(3, 30)", 7, () -> mill.raise(3, 30));
    described("promise 17: raise(3, 30)", mill, 7, 6, 30, 64);
    refusesAndKeeps(mill, "promise 17: raise(1, 21)", Checks.UNSUPPORTED, () -> mill.raise(1, 21));
    for (int d : new int[] {0, -1, 31, Integer.MIN_VALUE, Integer.MAX_VALUE}) {
      refusesAndKeeps(mill, "promise 17: raise(1, " + d + ")", Checks.ARGUMENT, () -> mill.raise(1, d));
    }
    refusesAndKeeps(mill, "promise 17: raise(8, 0)", Checks.BOUNDS, () -> mill.raise(8, 0));
    refusesAndKeeps(mill, "promise 17: raise(-1, 31)", Checks.BOUNDS, () -> mill.raise(-1, 31));
  }

  private static void operators() {
    Heckeworks mill = new Heckeworks();
    mill.discriminant();
    checks.answers("promise 18: operator(0, 2)", 1, () -> mill.operator(0, 2));
    described("promise 18: operator(0, 2)", mill, 1, 12, 1, 32);
    checks.row("promise 18: operator(0, 2)", firsts(mill, 1, 5),
        0, -24, 24 * 24, -24 * 252, 24 * 1472);
    mill.eisenstein(4);
    checks.answers("promise 18: operator(2, 6)", 3, () -> mill.operator(2, 6));
    described("promise 18: operator(2, 6)", mill, 3, 4, 1, 11);
    checks.row("promise 18: operator(2, 6)", firsts(mill, 3, 4), 252, 252 * 240, 252 * 2160, 252 * 6720);
    checks.answers("promise 18: operator(0, 63)", 4, () -> mill.operator(0, 63));
    described("promise 18: operator(0, 63)", mill, 4, 12, 1, 2);
    checks.row("promise 18: operator(0, 63)", row(mill, 4), 0, 1902838392L);
    checks.answers("promise 18: operator(4, 2)", 5, () -> mill.operator(4, 2));
    described("promise 18: operator(4, 2)", mill, 5, 12, 1, 1);
    checks.row("promise 18: operator(4, 2)", row(mill, 5), 0);
    checks.answers("promise 18: operator(5, 1)", 6, () -> mill.operator(5, 1));
    described("promise 18: operator(5, 1)", mill, 6, 12, 1, 1);
    mill.raise(2, 5);
    checks.answers("promise 18: operator(7, 6)", 8, () -> mill.operator(7, 6));
    described("promise 18: operator(7, 6)", mill, 8, 4, 5, 11);
    checks.row("promise 18: operator(7, 6)", firsts(mill, 8, 7), 252, 0, 0, 0, 0, 252 * 240, 0);
  }

  private static void operatorsAtTheEdges() {
    Heckeworks mill = new Heckeworks();
    mill.theta(-3, 0);
    mill.factor(2, 4);
    mill.factor(2, -4);
    mill.eta();
    described("promise 18: a series of the weight 0", mill, 1, 0, 2, 64);
    checks.answers("promise 18: of the weight 1", 2, () -> mill.operator(0, 2));
    checks.row("promise 18: of the weight 1", firsts(mill, 2, 8), 2, 0, 12, 0, 0, 0, 12, 0);
    for (int n : new int[] {3, 6, 63}) {
      refusesAndKeeps(mill, "promise 18: operator(0, " + n + ")", Checks.UNSUPPORTED, () -> mill.operator(0, n));
    }
    refusesAndKeeps(mill, "promise 18: the weight 0", Checks.UNSUPPORTED, () -> mill.operator(1, 3));
    refusesAndKeeps(mill, "promise 18: the weight 0 at 1", Checks.UNSUPPORTED, () -> mill.operator(1, 1));
    for (int n : new int[] {0, -1, 64, Integer.MIN_VALUE, Integer.MAX_VALUE}) {
      refusesAndKeeps(mill, "promise 18: operator(1, " + n + ")", Checks.ARGUMENT, () -> mill.operator(1, n));
      refusesAndKeeps(mill, "promise 18: operator(3, " + n + ")", Checks.BOUNDS, () -> mill.operator(3, n));
    }
  }

  private static void told() {
    Heckeworks mill = new Heckeworks();
    mill.discriminant();
    mill.operator(0, 2);
    checks.answers("promise 22: coefficient(0, 0)", 0, () -> mill.coefficient(0, 0));
    checks.answers("promise 22: coefficient(1, 31)", mill.coefficient(0, 62), () -> mill.coefficient(1, 31));
    for (int n : new int[] {-1, 64, Integer.MIN_VALUE, Integer.MAX_VALUE}) {
      checks.refuses("promise 22: coefficient(0, " + n + ")", Checks.MISSING, () -> mill.coefficient(0, n));
      checks.refuses("promise 22: coefficient(2, " + n + ")", Checks.BOUNDS, () -> mill.coefficient(2, n));
    }
    checks.refuses("promise 22: coefficient(1, 32)", Checks.MISSING, () -> mill.coefficient(1, 32));
  }

  private static void noSeries() {
    Heckeworks mill = new Heckeworks();
    mill.eisenstein(4);
    for (int series : new int[] {-1, 1, 15, 16, Integer.MIN_VALUE, Integer.MAX_VALUE}) {
      checks.refuses("promise 19: weight(" + series + ")", Checks.BOUNDS, () -> mill.weight(series));
      checks.refuses("promise 20: level(" + series + ")", Checks.BOUNDS, () -> mill.level(series));
      checks.refuses("promise 21: precision(" + series + ")", Checks.BOUNDS, () -> mill.precision(series));
      checks.refuses("promise 22: coefficient(" + series + ", 0)", Checks.BOUNDS, () -> mill.coefficient(series, 0));
      checks.refuses("promise 18: operator(" + series + ", 1)", Checks.BOUNDS, () -> mill.operator(series, 1));
      checks.refuses("promise 17: raise(" + series + ", 1)", Checks.BOUNDS, () -> mill.raise(series, 1));
      checks.refuses("promise 16: sum(" + series + ", 0, 1)", Checks.BOUNDS, () -> mill.sum(series, 0, 1));
      checks.refuses("promise 15: product(0, " + series + ")", Checks.BOUNDS, () -> mill.product(0, series));
    }
    checks.answers("promises 15 to 18 changed nothing", 1, mill::series);
  }

  /** With 16 series every other exception still comes first. */
  private static void sixteen() {
    Heckeworks mill = new Heckeworks();
    mill.theta(-7, 0);
    mill.theta(-11, 0);
    for (int i = 2; i < 16; i++) {
      int due = i;
      checks.answers("promise 11: the series " + i, due, mill::discriminant);
    }
    refusesAndKeeps(mill, "promise 11: a 17th series", Checks.STATE, mill::discriminant);
    refusesAndKeeps(mill, "promise 10: a 17th series", Checks.STATE, () -> mill.eisenstein(4));
    refusesAndKeeps(mill, "promise 10: of no weight", Checks.ARGUMENT, () -> mill.eisenstein(5));
    refusesAndKeeps(mill, "promise 15: a 17th series", Checks.STATE, () -> mill.product(15, 15));
    refusesAndKeeps(mill, "promise 15: of no level", Checks.UNSUPPORTED, () -> mill.product(0, 1));
    refusesAndKeeps(mill, "promise 15: of no series", Checks.BOUNDS, () -> mill.product(16, 0));
    refusesAndKeeps(mill, "promise 16: a 17th series", Checks.STATE, () -> mill.sum(15, 2, 3));
    refusesAndKeeps(mill, "promise 16: of no level", Checks.UNSUPPORTED, () -> mill.sum(0, 1, 1));
    refusesAndKeeps(mill, "promise 16: of other weights", Checks.UNSUPPORTED, () -> mill.sum(0, 2, 1));
    refusesAndKeeps(mill, "promise 16: of no series", Checks.BOUNDS, () -> mill.sum(0, 16, 1));
    refusesAndKeeps(mill, "promise 17: a 17th series", Checks.STATE, () -> mill.raise(15, 2));
    refusesAndKeeps(mill, "promise 17: of no level", Checks.UNSUPPORTED, () -> mill.raise(0, 9));
    refusesAndKeeps(mill, "promise 17: of no number", Checks.ARGUMENT, () -> mill.raise(0, 31));
    refusesAndKeeps(mill, "promise 18: a 17th series", Checks.STATE, () -> mill.operator(15, 2));
    refusesAndKeeps(mill, "promise 18: of a divisor", Checks.UNSUPPORTED, () -> mill.operator(0, 14));
    refusesAndKeeps(mill, "promise 18: of no number", Checks.ARGUMENT, () -> mill.operator(0, 64));
    checks.answers("promise 19: weight(15)", 12, () -> mill.weight(15));
  }
}
