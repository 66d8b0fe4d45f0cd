import java.util.function.IntSupplier;

/** Compares answers with those that are due, and ends a test with exit code 1 if one was wrong. */
final class Check {
  static final Class<IllegalArgumentException> RANGE = IllegalArgumentException.class;
  static final Class<java.util.NoSuchElementException> NOT_THERE = java.util.NoSuchElementException.class;
  static final Class<IllegalStateException> STATE = IllegalStateException.class;
  static final Class<UnsupportedOperationException> SUPPORT = UnsupportedOperationException.class;
  static final Class<IndexOutOfBoundsException> INDEX = IndexOutOfBoundsException.class;

  private static int wrong = 0;

  private Check() {}

  static void due(String what, int want, int got) {
    if (got != want) {
      tell(what, String.valueOf(want), String.valueOf(got));
    }
  }

  static void thrown(String what, Class<? extends RuntimeException> want, IntSupplier call) {
    try {
      int got = call.getAsInt();
      tell(what, want.getSimpleName(), String.valueOf(got));
    } catch (RuntimeException e) {
      if (e.getClass() != want) {
        tell(what, want.getSimpleName(), e.toString());
      }
    }
  }

  static void tell(String what, String want, String got) {
    wrong++;
    System.out.println(what + ": due is " + want + ", got " + got);
  }

  static void end() {
    if (wrong != 0) {
      System.exit(1);
    }
  }
}
