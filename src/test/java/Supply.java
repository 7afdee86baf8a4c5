/**
 * Mills for calls whose answers no earlier call changes. What a mill answers behind its 512th call is free, so that a
 * new one is handed out before.
 */
final class Supply {
  static final int MOST_CALLS = 512;

  private Heckeworks mill = new Heckeworks();
  private int calls;

  /** For one call. */
  Heckeworks mill() {
    if (calls == MOST_CALLS) {
      mill = new Heckeworks();
      calls = 0;
    }
    calls++;
    return mill;
  }
}
