/** Promise 1. */
public final class NewObjectTest {
  public static void main(String[] args) {
    JavaChain x = new JavaChain();
    for (int k = 0; k < 6; k++) {
      Check.due("no class " + k, 0, x.about(k, 0));
    }
    Check.due("WHERE before any VERIFYING", -1, x.fault(false));
    Check.due("WHY before any VERIFYING", -1, x.fault(true));
    Check.due("outcome before any RUNNING", -1, x.outcome(0));
    Check.due("detail before any RUNNING", 0, x.outcome(1));
    Check.due("done before any RUNNING", 0, x.outcome(2));
    Check.due("made before any RUNNING", 0, x.outcome(3));
    Check.thrown("heap before any RUNNING", Check.INDEX, () -> x.heap(0, 0));
    Check.due("the first class", 1, x.define(3, -1));
    Check.thrown("not VERIFIED at first", Check.SUPPORT, () -> x.run(3, 0, 0, 1, false));
    asksOfNone();
    JavaChain other = new JavaChain();
    Check.due("objects share nothing", 0, other.about(3, 0));
    Check.due("nothing to verify", 0, other.verify());
    other.define(2, -1);
    Check.thrown("VERIFIED until a class is put", Check.SUPPORT, () -> other.run(2, 0, 0, 1, false));
    Check.end();
  }

  /** "No classes.": each number in range is of a class that is not there. */
  private static void asksOfNone() {
    JavaChain x = new JavaChain();
    for (int i = 0; i < 6; i++) {
      int k = i;
      Check.due("not there", 0, x.about(k, 0));
      for (int what = 1; what < 7; what++) {
        Check.due("nothing about class " + k, -1, x.about(k, what));
      }
      Check.thrown("field", Check.NOT_THERE, () -> x.field(k, 0));
      Check.thrown("method", Check.NOT_THERE, () -> x.method(k, 0, -1, -1, 0));
      Check.thrown("code", Check.NOT_THERE, () -> x.code(k, 0, 0, 0));
      Check.thrown("catcher", Check.NOT_THERE, () -> x.catcher(k, 0, 0, 0, 0));
      Check.thrown("map", Check.NOT_THERE, () -> x.map(k, 0, 0, 0));
      Check.thrown("run", Check.NOT_THERE, () -> x.run(k, 0, 0, 1, true));
      Check.thrown("run, not GUARDED", Check.NOT_THERE, () -> x.run(k, 0, 0, 1, false));
      for (int base = 0; base < 6; base++) {
        int of = base;
        Check.thrown("no SUPER is there", Check.STATE, () -> x.define(k, of));
      }
    }
    Check.due("no METHODS", 0, x.verify());
    Check.due("no FAULT", -1, x.fault(true));
    Check.outcome("no RUNNING", x, -1, 0, 0, 0);
    Check.due("the first class", 1, x.define(0, -1));
  }
}
