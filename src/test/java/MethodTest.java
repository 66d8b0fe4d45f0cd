/** Promise 4. */
public final class MethodTest {
  public static void main(String[] args) {
    counts();
    refusesNumbers();
    refusesOtherFaces();
    endsVerified();
    Check.end();
  }

  private static void counts() {
    JavaChain x = new JavaChain();
    x.define(0, -1);
    Check.due("none", 1, x.method(0, 3, -1, -1, 0));
    Check.due("one", 2, x.method(0, 0, 1, -1, 15));
    Check.due("two", 3, x.method(0, 2, 10, 0, 1));
    Check.due("fourth", 4, x.method(0, 1, 0, 14, 10));
    Check.due("without INSTRUCTIONS", 0, x.about(0, 4));
    x.define(1, 0);
    Check.due("only its own are counted", 1, x.method(1, 0, 1, -1, 15));
  }

  private static void refusesNumbers() {
    JavaChain x = new JavaChain();
    x.define(0, -1);
    Check.thrown("k -1", Check.RANGE, () -> x.method(-1, 0, 0, 0, 0));
    Check.thrown("k 6", Check.RANGE, () -> x.method(6, 0, 0, 0, 0));
    Check.thrown("slot -1", Check.RANGE, () -> x.method(0, -1, 0, 0, 0));
    Check.thrown("slot 4", Check.RANGE, () -> x.method(0, 4, 0, 0, 0));
    for (int type : new int[] {-2, 2, 9, 16}) {
      Check.thrown("one " + type, Check.RANGE, () -> x.method(0, 0, type, -1, 0));
      Check.thrown("two " + type, Check.RANGE, () -> x.method(0, 0, 0, type, 0));
      Check.thrown("result " + type, Check.RANGE, () -> x.method(0, 0, 0, 0, type));
    }
    Check.thrown("result -1", Check.RANGE, () -> x.method(0, 0, 0, 0, -1));
    Check.thrown("two without one", Check.RANGE, () -> x.method(0, 0, -1, 0, 0));
    Check.thrown("two without one, before the class", Check.RANGE, () -> x.method(1, 0, -1, 0, 0));
    Check.thrown("class not there", Check.NOT_THERE, () -> x.method(1, 0, 0, 0, 0));
    Check.due("none yet", -1, x.about(0, 3));
  }

  private static void refusesOtherFaces() {
    JavaChain x = new JavaChain();
    x.define(0, -1);
    x.define(1, 0);
    x.define(2, 1);
    x.define(3, 0);
    x.method(1, 0, 0, -1, 0);
    Check.thrown("its own", Check.STATE, () -> x.method(1, 0, 0, -1, 0));
    Check.thrown("other one above", Check.STATE, () -> x.method(2, 0, 1, -1, 0));
    Check.thrown("other count above", Check.STATE, () -> x.method(2, 0, -1, -1, 0));
    Check.thrown("other two above", Check.STATE, () -> x.method(2, 0, 0, 0, 0));
    Check.thrown("other RESULT below", Check.STATE, () -> x.method(0, 0, 0, -1, 1));
    Check.due("beside it, other ones", 1, x.method(3, 0, 1, 1, 1));
    Check.thrown("now no face suits both below", Check.STATE, () -> x.method(0, 0, 0, -1, 0));
    Check.thrown("nor this", Check.STATE, () -> x.method(0, 0, 1, 1, 1));
    Check.due("another SLOT", 1, x.method(0, 1, 1, 1, 1));
    Check.thrown("far above", Check.STATE, () -> x.method(2, 1, 1, 1, 0));
    Check.due("the same", 1, x.method(2, 0, 0, -1, 0));
    Check.due("the same, far above", 2, x.method(2, 1, 1, 1, 1));
  }

  private static void endsVerified() {
    JavaChain x = Write.ints(Write.PUSH, 7, Write.RETURN, 0);
    x.verify();
    Check.thrown("a method that throws", Check.STATE, () -> x.method(0, 0, 0, 0, 0));
    Check.due("changes nothing", 7, x.run(0, 0, 0, 9, false));
    x.method(0, 1, 0, 0, 0);
    Check.thrown("a method ends VERIFIED", Check.SUPPORT, () -> x.run(0, 0, 0, 9, false));
  }
}
