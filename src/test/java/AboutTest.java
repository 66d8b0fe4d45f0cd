/** Promise 13. */
public final class AboutTest {
  public static void main(String[] args) {
    JavaChain x = new JavaChain();
    x.define(1, -1);
    x.field(1, 0);
    x.field(1, 1);
    x.define(4, 1);
    x.field(4, 13);
    x.method(1, 2, 0, 0, 0);
    x.method(1, 3, -1, -1, 0);
    Write.code(x, 1, 2, Write.PUSH, 1, Write.RETURN, 0);
    due(x, 1, 1, -1, 2, -1, -1, 2, 0);
    due(x, 4, 1, 1, 3, -1, -1, -1, -1);
    for (int k : new int[] {0, 2, 3, 5}) {
      due(x, k, 0, -1, -1, -1, -1, -1, -1);
    }
    Check.thrown("k -1", Check.RANGE, () -> x.about(-1, 0));
    Check.thrown("k 6", Check.RANGE, () -> x.about(6, 0));
    Check.thrown("what -1", Check.RANGE, () -> x.about(1, -1));
    Check.thrown("what 7", Check.RANGE, () -> x.about(1, 7));
    Check.thrown("what 7 of none", Check.RANGE, () -> x.about(0, 7));
    edges();
    Check.end();
  }

  /** No FIELDS and 18, no INSTRUCTIONS and 24, SUPER 0 and none, its own METHODS alone. */
  private static void edges() {
    JavaChain x = new JavaChain();
    for (int k = 0; k < 6; k++) {
      due(x, k, 0, -1, -1, -1, -1, -1, -1);
      x.define(k, k - 1);
      due(x, k, 1, k - 1, 3 * k, -1, -1, -1, -1);
      for (int f = 1; f < 4; f++) {
        x.field(k, Write.INT);
        due(x, k, 1, k - 1, 3 * k + f, -1, -1, -1, -1);
      }
      x.method(k, 0, -1, -1, 0);
      x.method(k, 3, -1, -1, 0);
      due(x, k, 1, k - 1, 3 * k + 3, 0, -1, -1, 0);
    }
    for (int i = 0; i < 24; i++) {
      x.code(0, 0, Write.PUSH, 0);
      x.code(5, 3, Write.PUSH, 0);
    }
    due(x, 0, 1, -1, 3, 24, -1, -1, 0);
    due(x, 5, 1, 4, 18, 0, -1, -1, 24);
    due(x, 1, 1, 0, 6, 0, -1, -1, 0);
  }

  private static void due(JavaChain x, int k, int... want) {
    for (int what = 0; what < 7; what++) {
      Check.due("about(" + k + ", " + what + ")", want[what], x.about(k, what));
    }
  }
}
