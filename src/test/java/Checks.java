/** Counts what holds and what does not, and prints the latter. */
final class Checks {
  interface Call {
    Object answer();
  }

  static final Class<? extends RuntimeException> ARGUMENT = IllegalArgumentException.class;
  static final Class<? extends RuntimeException> BOUNDS = IndexOutOfBoundsException.class;
  static final Class<? extends RuntimeException> UNSUPPORTED = UnsupportedOperationException.class;
  static final Class<? extends RuntimeException> STATE = IllegalStateException.class;
  static final Class<? extends RuntimeException> MISSING = java.util.NoSuchElementException.class;
  static final Class<? extends RuntimeException> ARITHMETIC = ArithmeticException.class;

  private int passed;
  private int failed;

  void same(String what, Object got, Object want) {
    if (String.valueOf(got).equals(String.valueOf(want))) {
      passed++;
    } else {
      failed++;
      System.out.println("FAILED " + what + ": answered " + got + ", due is " + want);
    }
  }

  /** The answer is compared as a text, so that an int and a long of one value are the same. */
  void answers(String what, Object want, Call call) {
    same(what, outcome(call), want);
  }

  /** Exactly this class: what the machine throws by itself is often one below it. */
  void refuses(String what, Class<? extends RuntimeException> want, Call call) {
    same(what, outcome(call), "throws " + want.getName());
  }

  static Object outcome(Call call) {
    try {
      return call.answer();
    } catch (RuntimeException thrown) {
      return "throws " + thrown.getClass().getName();
    }
  }

  void row(String what, long[] got, long... want) {
    same(what, java.util.Arrays.toString(got), java.util.Arrays.toString(want));
  }

  /** The last line is read by .ci/run. */
  void finish() {
    System.out.println(passed + " passed, " + failed + " failed");
    System.exit(failed == 0 ? 0 : 1);
  }
}
