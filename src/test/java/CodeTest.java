/** Promise 5. */
public final class CodeTest {
  public static void main(String[] args) {
    JavaChain x = new JavaChain();
    x.define(0, -1);
    x.define(1, 0);
    x.method(0, 2, 0, 0, 0);
    refuses(x);
    for (int i = 0; i < 24; i++) {
      Check.due("INSTRUCTION " + i, i, x.code(0, 2, i, i % 2 == 0 ? Integer.MIN_VALUE : Integer.MAX_VALUE));
    }
    Check.thrown("a 25th", Check.STATE, () -> x.code(0, 2, 25, 0));
    Check.thrown("a 25th of a bad operation", Check.RANGE, () -> x.code(0, 2, 26, 0));
    Check.due("24 are there", 24, x.about(0, 5));
    edges();
    endsVerified();
    Check.end();
  }

  private static void refuses(JavaChain x) {
    Check.thrown("k -1", Check.RANGE, () -> x.code(-1, 2, 0, 0));
    Check.thrown("k 6", Check.RANGE, () -> x.code(6, 2, 0, 0));
    Check.thrown("slot -1", Check.RANGE, () -> x.code(0, -1, 0, 0));
    Check.thrown("slot 4", Check.RANGE, () -> x.code(0, 4, 0, 0));
    Check.thrown("operation -1", Check.RANGE, () -> x.code(0, 2, -1, 0));
    Check.thrown("operation 26", Check.RANGE, () -> x.code(0, 2, 26, 0));
    Check.thrown("operation before class", Check.RANGE, () -> x.code(5, 2, 26, 0));
    Check.thrown("class not there", Check.NOT_THERE, () -> x.code(5, 2, 0, 0));
    Check.thrown("no METHOD", Check.NOT_THERE, () -> x.code(0, 0, 0, 0));
    Check.thrown("not of its own", Check.NOT_THERE, () -> x.code(1, 2, 0, 0));
    Check.due("none is there", 0, x.about(0, 5));
  }

  /** Class 5, SLOT 3, operations 0 and 25, any x; 24 fit, and no 25th. */
  private static void edges() {
    JavaChain x = new JavaChain();
    x.define(5, -1);
    x.method(5, 3, -1, -1, 0);
    int[] arguments = {Integer.MIN_VALUE, -1, 0, 1, Integer.MAX_VALUE};
    for (int i = 0; i < 24; i++) {
      Check.due("INSTRUCTION " + i, i, x.code(5, 3, i % 2 * 25, arguments[i % 5]));
      Check.due("so many are there", i + 1, x.about(5, 6));
    }
    for (int operation = 0; operation < 26; operation++) {
      int last = operation;
      Check.thrown("none more", Check.STATE, () -> x.code(5, 3, last, 0));
    }
    Check.due("24 are there", 24, x.about(5, 6));
    x.method(5, 0, -1, -1, 0);
    Check.due("another METHOD has its own", 0, x.code(5, 0, 0, 0));
    for (int argument : arguments) {
      JavaChain pushed = Write.ints();
      pushed.code(0, 0, Write.PUSH, argument);
      pushed.code(0, 0, Write.RETURN, -argument);
      Check.due("PUSH " + argument, argument, pushed.run(0, 0, 0, 9, true));
    }
  }

  private static void endsVerified() {
    JavaChain x = Write.ints(Write.PUSH, 7, Write.RETURN, 0);
    x.verify();
    Check.thrown("a code that throws", Check.RANGE, () -> x.code(0, 0, -1, 0));
    Check.due("changes nothing", 7, x.run(0, 0, 0, 9, false));
    x.code(0, 0, Write.RETURN, 0);
    Check.thrown("a code ends VERIFIED", Check.SUPPORT, () -> x.run(0, 0, 0, 9, false));
    Check.due("but what is not reached does no harm", 1, x.verify());
  }
}
