/** Promise 13. */
public final class AboutTest {
  public static void main(String[] args) {
    JavaChain x = new JavaChain();
    x.define(1, -1);
    x.field(1, 0);
    x.field(1, 1);
    x.define(4, 1);
    x.field(4, 13);
    x.method(1, 2, 0, 0, 0);
    x.method(1, 3, -1, -1, 0);
    Write.code(x, 1, 2, Write.PUSH, 1, Write.RETURN, 0);
    due(x, 1, 1, -1, 2, -1, -1, 2, 0);
    due(x, 4, 1, 1, 3, -1, -1, -1, -1);
    for (int k : new int[] {0, 2, 3, 5}) {
      due(x, k, 0, -1, -1, -1, -1, -1, -1);
    }
    Check.thrown("k -1", Check.RANGE, () -> x.about(-1, 0));
    Check.thrown("k 6", Check.RANGE, () -> x.about(6, 0));
    Check.thrown("what -1", Check.RANGE, () -> x.about(1, -1));
    Check.thrown("what 7", Check.RANGE, () -> x.about(1, 7));
    Check.thrown("what 7 of none", Check.RANGE, () -> x.about(0, 7));
    Check.end();
  }

  private static void due(JavaChain x, int k, int... want) {
    for (int what = 0; what < 7; what++) {
      Check.due("about(" + k + ", " + what + ")", want[what], x.about(k, what));
    }
  }
}
