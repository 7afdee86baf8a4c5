import java.util.Random;

/** Promises 12 to 14. */
final class QuotientsTest {
  private static final Checks checks = new Checks();

  public static void main(String[] args) {
    factors();
    whole();
    knownQuotients();
    edges();
    wrongQuotients();
    chosenQuotients();
    checks.finish();
  }

  private static void tell(Heckeworks mill, int... factors) {
    for (int i = 0; i + 1 < factors.length; i += 2) {
      mill.factor(factors[i], factors[i + 1]);
    }
  }

  private static void factors() {
    Heckeworks mill = new Heckeworks();
    checks.answers("promise 12: factor(30, -24)", 1, () -> mill.factor(30, -24));
    checks.answers("promise 12: factor(30, 24)", 2, () -> mill.factor(30, 24));
    checks.answers("promise 12: factor(4, 1)", 3, () -> mill.factor(4, 1));
    checks.refuses("promise 12: the level 420", Checks.UNSUPPORTED, () -> mill.factor(7, 1));
    int[][] wrong = {
      {0, 1}, {-1, 1}, {31, 1}, {1, 0}, {1, 25}, {1, -25}, {7, 25}, {Integer.MIN_VALUE, 1}, {1, Integer.MIN_VALUE},
      {Integer.MAX_VALUE, Integer.MAX_VALUE}
    };
    for (int[] row : wrong) {
      checks.refuses("promise 12: factor(" + row[0] + ", " + row[1] + ")", Checks.ARGUMENT,
          () -> mill.factor(row[0], row[1]));
    }
    for (int i = 4; i <= 8; i++) {
      int due = i;
      checks.answers("promise 12: the factor " + i, due, () -> mill.factor(1, 1));
    }
    checks.refuses("promise 12: a 9th factor", Checks.STATE, () -> mill.factor(1, 1));
    checks.refuses("promise 12: a 9th factor of a level", Checks.UNSUPPORTED, () -> mill.factor(8, 1));
    checks.refuses("promise 12: a 9th factor out of range", Checks.ARGUMENT, () -> mill.factor(31, 1));
    Heckeworks other = new Heckeworks();
    other.factor(29, 1);
    checks.refuses("promise 12: the level 87", Checks.UNSUPPORTED, () -> other.factor(3, 1));
    checks.answers("promise 12: the level 58", 2, () -> other.factor(2, 1));
  }

  private static void whole() {
    int[][] are = {{}, {1, 2, 11, 2}, {1, 24}, {4, -2, 2, 5, 1, -2}, {30, 1}, {2, 1, 1, -1, 1, 1}, {2, 2, 1, -1}};
    for (int[] factors : are) {
      Heckeworks mill = new Heckeworks();
      tell(mill, factors);
      checks.answers("promise 13: " + java.util.Arrays.toString(factors), true, mill::isWhole);
    }
    int[][] areNot = {
      {1, -1}, {4, -3, 2, 5, 1, -2}, {2, 1, 1, -1, 1, -1}, {4, 2, 2, -3, 1, 2}, {30, -1}, {1, 8, 2, -5}
    };
    for (int[] factors : areNot) {
      Heckeworks mill = new Heckeworks();
      tell(mill, factors);
      checks.answers("promise 13: not " + java.util.Arrays.toString(factors), false, mill::isWhole);
    }
    Heckeworks mill = new Heckeworks();
    tell(mill, 1, -1);
    checks.answers("promise 13: not yet", false, mill::isWhole);
    tell(mill, 1, 1);
    checks.answers("promise 13: those with one number all count", true, mill::isWhole);
  }

  private static void known(String what, int[] factors, int weight, int level, long... row) {
    Heckeworks mill = new Heckeworks();
    mill.eisenstein(4);
    tell(mill, factors);
    checks.answers(what, 1, mill::eta);
    checks.answers(what + ", weight", weight, () -> mill.weight(1));
    checks.answers(what + ", level", level, () -> mill.level(1));
    checks.answers(what + ", precision", 64, () -> mill.precision(1));
    for (int i = 0; i < row.length; i++) {
      int at = i;
      checks.answers(what + " at " + i, row[i], () -> mill.coefficient(1, at));
    }
    checks.answers(what + ", the next one has no factors", 1, () -> mill.factor(29, 1));
  }

  private static void knownQuotients() {
    known("promise 14: level 11", new int[] {1, 2, 11, 2}, 2, 11, 0, 1, -2, -1, 2, 1, 2, -2, 0, -2, -2, 1, -2, 4);
    known("promise 14: level 14", new int[] {1, 1, 2, 1, 7, 1, 14, 1}, 2, 14, 0, 1, -1, -2, 1, 0, 2, 1, -1, 1);
    known("promise 14: Discriminant", new int[] {1, 24}, 12, 1, 0, 1, -24, 252, -1472, 4830);
    known("promise 14: told in parts", new int[] {1, 12, 1, 11, 1, 1}, 12, 1, 0, 1, -24, 252, -1472, 4830);
    known("promise 14: level 23", new int[] {1, 1, 23, 1}, 1, 23, 0, 1, -1, -1, 0, 0, 1, 0, 1, 0, 0, 0, 0, -1);
    // The sum of the variable to all squares, with its two powers, to the power 4.
    known("promise 14: four squares", new int[] {2, 20, 1, -8, 4, -8}, 2, 4, 1, 8, 24, 32, 24, 48, 96, 64, 24, 104);
    known("promise 14: level 2", new int[] {1, -8, 2, 16}, 4, 2, 0, 1, 8, 28, 64, 126, 224, 344, 512, 757);
    // What is told and taken back still counts for the level.
    known("promise 14: nothing left", new int[] {3, 5, 3, -5}, 0, 3, 1, 0, 0, 0, 0, 0);
    known("promise 14: weight 0", new int[] {1, -24, 2, 24}, 0, 2, 0, 1, 24, 300, 2624);
  }

  private static void edges() {
    // 48 times 30 and 72 make 63 times 24.
    Heckeworks mill = new Heckeworks();
    tell(mill, 30, 24, 30, 24, 1, 24, 1, 24, 1, 24);
    checks.answers("promise 14: begins at 63", 0, mill::eta);
    checks.answers("promise 14: the weight 60", 60, () -> mill.weight(0));
    checks.answers("promise 14: at 63", 1, () -> mill.coefficient(0, 63));
    checks.answers("promise 14: at 62", 0, () -> mill.coefficient(0, 62));
    checks.answers("promise 14: all", 1, mill::allCoefficients);
    tell(mill, 30, 24, 30, 24, 2, 24, 2, 24);
    checks.refuses("promise 14: begins at 64", Checks.UNSUPPORTED, mill::eta);
    tell(mill, 2, -24);
    checks.answers("promise 14: begins at 62", 1, mill::eta);
    checks.answers("promise 14: at 62 then", 1, () -> mill.coefficient(1, 62));
    tell(mill, 1, 24, 1, 24, 1, 24, 1, 24, 1, 24);
    checks.answers("promise 14: begins at 5", 2, mill::eta);
    checks.answers("promise 14: at 6", -120, () -> mill.coefficient(2, 6));
    checks.answers("promise 14: the level begins anew", 1, () -> mill.level(2));
    tell(mill, 1, 24, 1, 24, 1, 24, 1, 24, 1, 24, 2, 1, 1, -2, 1, 3);
    checks.refuses("promise 14: the weight 61", Checks.UNSUPPORTED, mill::eta);
  }

  private static void wrongQuotients() {
    int[][] wrong = {
      {}, {1, 23}, {24, 1}, {24, -2}, {1, -24}, {1, 24, 2, -24}, {1, 2}, {23, 2}, {4, 10, 2, -4, 1, -4},
      {30, 24, 15, -24, 15, -24}, {1, -24, 24, 2}, {2, -12, 1, 24, 1, -12, 2, -1, 2, 1, 1, 24, 1, -24, 1, 1}
    };
    for (int[] factors : wrong) {
      Heckeworks mill = new Heckeworks();
      tell(mill, factors);
      String what = "promise 14: not " + java.util.Arrays.toString(factors);
      checks.refuses(what, Checks.UNSUPPORTED, mill::eta);
      checks.answers(what + ", no series", 0, mill::series);
      if (factors.length < 16) {
        checks.answers(what + ", its factors stay", factors.length / 2 + 1, () -> mill.factor(1, 1));
      }
    }
    Heckeworks full = new Heckeworks();
    for (int i = 0; i < 16; i++) {
      full.discriminant();
    }
    checks.refuses("promise 14: no factors come first", Checks.UNSUPPORTED, full::eta);
    full.factor(1, 24);
    checks.refuses("promise 14: a 17th series", Checks.STATE, full::eta);
    checks.answers("promise 14: its factor stays", 2, () -> full.factor(1, -1));
    checks.refuses("promise 14: a half weight comes first", Checks.UNSUPPORTED, full::eta);
  }

  /** Quotients by chance, as many as can be made, all coefficients against those by factor after factor. */
  private static void chosenQuotients() {
    Random chance = new Random(5);
    int[] numbers = {1, 2, 3, 4, 6, 8, 12, 24, 5, 10, 7, 14, 21, 9, 18, 27, 11, 13, 23, 25, 29, 30};
    int made = 0;
    for (int i = 0; i < 20000 && made < 120; i++) {
      Heckeworks mill = new Heckeworks();
      PlainMill plain = new PlainMill();
      for (int left = 1 + chance.nextInt(8); left > 0; left--) {
        int d = numbers[chance.nextInt(numbers.length)];
        int r = chance.nextInt(4) == 0 ? 1 + chance.nextInt(24) : chance.nextInt(25) - 12;
        if (!Checks.outcome(() -> mill.factor(d, r)).equals(Checks.outcome(() -> plain.factor(d, r)))) {
          checks.same("promise 12: by chance " + d + ", " + r, "another outcome", "the same one");
        }
      }
      checks.same("promise 13: by chance " + i, mill.isWhole(), plain.isWhole());
      Object due = Checks.outcome(plain::eta);
      checks.answers("promise 14: by chance " + i, due, mill::eta);
      if (plain.series() == 1) {
        made++;
        StringBuilder got = new StringBuilder();
        StringBuilder want = new StringBuilder();
        for (int n = 0; n < 64; n++) {
          got.append(mill.coefficient(0, n)).append(' ');
          want.append(plain.coefficient(0, n)).append(' ');
        }
        checks.same("promise 14: coefficients by chance " + i, got, want);
      }
    }
    checks.same("promise 14: enough are made by chance", made, 120);
  }
}
