/** Promises 23 to 25. */
final class BoundsTest {
  private static final Checks checks = new Checks();

  public static void main(String[] args) {
    bounds();
    equals();
    congruent();
    toldOrNot();
    wrongOnes();
    checks.finish();
  }

  private static void bounds() {
    Heckeworks mill = new Heckeworks();
    mill.eisenstein(4);
    mill.raise(0, 2);
    mill.raise(0, 3);
    mill.raise(0, 4);
    mill.theta(-59, 0);
    mill.theta(-3, 0);
    mill.discriminant();
    int[][] known = {{0, 0, 0}, {0, 1, 1}, {1, 0, 1}, {1, 2, 4}, {1, 3, 2}, {2, 3, 8}, {4, 4, 5}, {5, 5, 0}, {6, 6, 1}};
    for (int[] row : known) {
      checks.answers("promise 23: bound(" + row[0] + ", " + row[1] + ")", row[2], () -> mill.bound(row[0], row[1]));
    }
    checks.refuses("promise 23: other weights", Checks.UNSUPPORTED, () -> mill.bound(0, 6));
    checks.refuses("promise 23: the level 177", Checks.UNSUPPORTED, () -> mill.bound(4, 5));
  }

  private static void equals() {
    Heckeworks mill = new Heckeworks();
    mill.eisenstein(4);
    mill.product(0, 0);
    mill.eisenstein(8);
    mill.raise(0, 2);
    mill.eisenstein(6);
    mill.product(0, 1);
    mill.product(4, 4);
    mill.sum(5, 6, -1);
    mill.discriminant();
    mill.sum(8, 8, 1727);
    checks.answers("promise 24: 4 by 4 is 8", true, () -> mill.isEqual(1, 2));
    checks.answers("promise 24: itself", true, () -> mill.isEqual(3, 3));
    checks.answers("promise 24: 4 raised is another", false, () -> mill.isEqual(0, 3));
    checks.answers("promise 24: 4 cubed less 6 squared", true, () -> mill.isEqual(7, 9));
    checks.answers("promise 24: 4 cubed and 6 squared", false, () -> mill.isEqual(5, 6));
    mill.theta(-23, 0);
    mill.theta(-23, 1);
    mill.theta(-23, 2);
    checks.answers("promise 24: thetas of the two opposite forms", true, () -> mill.isEqual(11, 12));
    checks.answers("promise 24: thetas of others", false, () -> mill.isEqual(10, 11));
    checks.answers("promise 25: thetas modulo 2", true, () -> mill.isCongruent(10, 11, 2));
    checks.answers("promise 25: thetas modulo 3", false, () -> mill.isCongruent(10, 11, 3));
  }

  private static void congruent() {
    Heckeworks mill = new Heckeworks();
    mill.eisenstein(4);
    mill.eisenstein(8);
    mill.product(0, 0);
    mill.product(2, 0);
    mill.eisenstein(6);
    mill.product(4, 4);
    for (int m : new int[] {2, 3, 64, 1728, 864}) {
      checks.answers("promise 25: 4 cubed and 6 squared modulo " + m, true, () -> mill.isCongruent(3, 5, m));
    }
    for (int m : new int[] {5, 7, 1729, 9999, 128}) {
      checks.answers("promise 25: 4 cubed and 6 squared modulo " + m, false, () -> mill.isCongruent(3, 5, m));
    }
    // Eisenstein's of the weight 4 and itself raised have the bound 1, and differ by 240 there.
    mill.raise(0, 2);
    checks.answers("promise 25: modulo 240", true, () -> mill.isCongruent(0, 6, 240));
    checks.answers("promise 25: modulo 241", false, () -> mill.isCongruent(0, 6, 241));
    // 2 to the power 62 and its negative; what is between them does not fit a long.
    mill.sum(0, 0, Integer.MIN_VALUE);
    mill.sum(7, 0, -1);
    mill.sum(8, 8, Integer.MIN_VALUE);
    mill.sum(9, 8, -1);
    mill.sum(10, 10, -2);
    checks.answers("promise 25: the greater one", 1L << 62, () -> mill.coefficient(10, 0));
    checks.answers("promise 25: the lesser one", -(1L << 62), () -> mill.coefficient(11, 0));
    checks.answers("promise 25: 3 does not divide 2 to the power 63", false, () -> mill.isCongruent(10, 11, 3));
    checks.answers("promise 25: 2 does", true, () -> mill.isCongruent(10, 11, 2));
  }

  private static void toldOrNot() {
    Heckeworks mill = new Heckeworks();
    mill.discriminant();
    mill.operator(0, 63);
    mill.operator(1, 2);
    mill.raise(0, 30);
    mill.raise(0, 20);
    mill.raise(4, 3);
    mill.eisenstein(4);
    mill.operator(6, 2);
    checks.answers("promise 24: another at 0 alone", false, () -> mill.isEqual(6, 7));
    checks.answers("promise 25: another at 0 alone", false, () -> mill.isCongruent(6, 7, 5));
    checks.answers("promise 25: the same at 0", true, () -> mill.isCongruent(6, 7, 8));
    checks.answers("promise 24: just enough", true, () -> mill.isEqual(1, 1));
    checks.answers("promise 25: just enough", false, () -> mill.isCongruent(0, 1, 5));
    checks.refuses("promise 24: one too few", Checks.UNSUPPORTED, () -> mill.isEqual(0, 2));
    checks.refuses("promise 24: one too few, first", Checks.UNSUPPORTED, () -> mill.isEqual(2, 0));
    checks.refuses("promise 25: one too few", Checks.UNSUPPORTED, () -> mill.isCongruent(0, 2, 5));
    checks.refuses("promise 25: one too few, first", Checks.UNSUPPORTED, () -> mill.isCongruent(2, 0, 5));
    checks.answers("promise 23: bound(3, 3)", 72, () -> mill.bound(3, 3));
    checks.refuses("promise 24: 64 are too few", Checks.UNSUPPORTED, () -> mill.isEqual(3, 3));
    checks.answers("promise 23: bound(5, 0)", 144, () -> mill.bound(5, 0));
    checks.refuses("promise 24: 64 are far too few", Checks.UNSUPPORTED, () -> mill.isEqual(5, 0));
    checks.answers("promise 23: bound(4, 0)", 36, () -> mill.bound(4, 0));
    checks.answers("promise 24: 64 are enough", false, () -> mill.isEqual(4, 0));
  }

  private static void wrongOnes() {
    Heckeworks mill = new Heckeworks();
    mill.eisenstein(4);
    mill.eisenstein(6);
    for (int series : new int[] {-1, 2, 16, Integer.MIN_VALUE, Integer.MAX_VALUE}) {
      checks.refuses("promise 23: bound(" + series + ", 1)", Checks.BOUNDS, () -> mill.bound(series, 1));
      checks.refuses("promise 23: bound(0, " + series + ")", Checks.BOUNDS, () -> mill.bound(0, series));
      checks.refuses("promise 24: isEqual(" + series + ", 1)", Checks.BOUNDS, () -> mill.isEqual(series, 1));
      checks.refuses("promise 24: isEqual(0, " + series + ")", Checks.BOUNDS, () -> mill.isEqual(0, series));
      checks.refuses("promise 25: isCongruent(" + series + ", 1, 1)", Checks.BOUNDS,
          () -> mill.isCongruent(series, 1, 1));
      checks.refuses("promise 25: isCongruent(0, " + series + ", 2)", Checks.BOUNDS,
          () -> mill.isCongruent(0, series, 2));
    }
    for (int m : new int[] {1, 0, -2, 10000, Integer.MIN_VALUE, Integer.MAX_VALUE}) {
      checks.refuses("promise 25: isCongruent(0, 1, " + m + ")", Checks.ARGUMENT, () -> mill.isCongruent(0, 1, m));
    }
    checks.refuses("promise 24: other weights", Checks.UNSUPPORTED, () -> mill.isEqual(0, 1));
    checks.refuses("promise 25: other weights", Checks.UNSUPPORTED, () -> mill.isCongruent(0, 1, 2));
    mill.raise(0, 7);
    mill.raise(0, 9);
    checks.refuses("promise 24: the level 63", Checks.UNSUPPORTED, () -> mill.isEqual(2, 3));
    checks.refuses("promise 25: the level 63", Checks.UNSUPPORTED, () -> mill.isCongruent(2, 3, 9999));
  }
}
