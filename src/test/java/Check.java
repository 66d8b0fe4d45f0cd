import java.util.function.IntSupplier;

/** Compares answers with those that are due, and ends a test with exit code 1 if one was wrong. */
final class Check {
  static final Class<IllegalArgumentException> RANGE = IllegalArgumentException.class;
  static final Class<java.util.NoSuchElementException> NOT_THERE = java.util.NoSuchElementException.class;
  static final Class<IllegalStateException> STATE = IllegalStateException.class;
  static final Class<UnsupportedOperationException> SUPPORT = UnsupportedOperationException.class;
  static final Class<IndexOutOfBoundsException> INDEX = IndexOutOfBoundsException.class;

  private static int wrong = 0;

  private Check() {}

  static void due(String what, int want, int got) {
    if (got != want) {
      tell(what, String.valueOf(want), String.valueOf(got));
    }
  }

  static void thrown(String what, Class<? extends RuntimeException> want, IntSupplier call) {
    try {
      int got = call.getAsInt();
      tell(what, want.getSimpleName(), String.valueOf(got));
    } catch (RuntimeException e) {
      if (e.getClass() != want) {
        tell(what, want.getSimpleName(), e.toString());
      }
    }
  }

  /** VERIFYING finds this FAULT there. */
  static void fault(String what, int why, int where, JavaChain x) {
    thrown(what, SUPPORT, x::verify);
    due(what + ": WHY", why, x.fault(true));
    due(what + ": WHERE", where, x.fault(false));
  }

  /** VERIFYING finds no FAULT. */
  static void faultless(String what, JavaChain x) {
    try {
      x.verify();
    } catch (UnsupportedOperationException e) {
      tell(what, "no FAULT", x.fault(true) + " at " + x.fault(false));
    }
    due(what + ": no WHY", -1, x.fault(true));
    due(what + ": no WHERE", -1, x.fault(false));
  }

  /** OUTCOME 0 .. 3 of the latest RUNNING. */
  static void outcome(String what, JavaChain x, int... want) {
    for (int i = 0; i < 4; i++) {
      due(what + ": outcome(" + i + ")", want[i], x.outcome(i));
    }
  }

  /** A RUNNING without a RESULT, with OUTCOME 0 .. 3. */
  static void ends(String what, JavaChain x, int fuel, boolean guarded, int... want) {
    thrown(what, STATE, () -> x.run(0, 0, 0, fuel, guarded));
    outcome(what, x, want);
  }

  static void tell(String what, String want, String got) {
    wrong++;
    System.out.println(what + ": due is " + want + ", got " + got);
  }

  static void end() {
    if (wrong != 0) {
      System.exit(1);
    }
  }
}
