/** Promise 1. */
public final class NewObjectTest {
  public static void main(String[] args) {
    JavaChain x = new JavaChain();
    for (int k = 0; k < 6; k++) {
      Check.due("no class " + k, 0, x.about(k, 0));
    }
    Check.due("WHERE before any VERIFYING", -1, x.fault(false));
    Check.due("WHY before any VERIFYING", -1, x.fault(true));
    Check.due("outcome before any RUNNING", -1, x.outcome(0));
    Check.due("detail before any RUNNING", 0, x.outcome(1));
    Check.due("done before any RUNNING", 0, x.outcome(2));
    Check.due("made before any RUNNING", 0, x.outcome(3));
    Check.thrown("heap before any RUNNING", Check.INDEX, () -> x.heap(0, 0));
    Check.due("the first class", 1, x.define(3, -1));
    Check.thrown("not VERIFIED at first", Check.SUPPORT, () -> x.run(3, 0, 0, 1, false));
    JavaChain other = new JavaChain();
    Check.due("objects share nothing", 0, other.about(3, 0));
    Check.due("nothing to verify", 0, other.verify());
    Check.end();
  }
}
