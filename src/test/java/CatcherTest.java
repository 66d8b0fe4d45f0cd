/** Promise 6. */
public final class CatcherTest {
  public static void main(String[] args) {
    refuses();
    edges();
    catchesInOrder();
    emptiesTheStack();
    spans();
    endsVerified();
    Check.end();
  }

  private static void refuses() {
    JavaChain x = Write.ints();
    x.define(1, 0);
    Check.thrown("k -1", Check.RANGE, () -> x.catcher(-1, 0, 0, 0, 0));
    Check.thrown("k 6", Check.RANGE, () -> x.catcher(6, 0, 0, 0, 0));
    Check.thrown("slot -1", Check.RANGE, () -> x.catcher(0, -1, 0, 0, 0));
    Check.thrown("slot 4", Check.RANGE, () -> x.catcher(0, 4, 0, 0, 0));
    Check.thrown("span -1", Check.RANGE, () -> x.catcher(0, 0, -1, 0, 0));
    Check.thrown("span 1024", Check.RANGE, () -> x.catcher(0, 0, 1024, 0, 0));
    Check.thrown("target -1", Check.RANGE, () -> x.catcher(0, 0, 0, -1, 0));
    Check.thrown("target 24", Check.RANGE, () -> x.catcher(0, 0, 0, 24, 0));
    Check.thrown("kind -1", Check.RANGE, () -> x.catcher(0, 0, 0, 0, -1));
    Check.thrown("kind 7", Check.RANGE, () -> x.catcher(0, 0, 0, 0, 7));
    Check.thrown("kind before class", Check.RANGE, () -> x.catcher(4, 0, 0, 0, 7));
    Check.thrown("class not there", Check.NOT_THERE, () -> x.catcher(4, 0, 0, 0, 0));
    Check.thrown("no METHOD", Check.NOT_THERE, () -> x.catcher(0, 1, 0, 0, 0));
    Check.thrown("not of its own", Check.NOT_THERE, () -> x.catcher(1, 0, 0, 0, 0));
    Check.due("first", 1, x.catcher(0, 0, 1023, 23, 6));
    Check.due("second", 2, x.catcher(0, 0, 0, 0, 5));
    Check.thrown("third", Check.STATE, () -> x.catcher(0, 0, 0, 0, 0));
    Check.thrown("third of a bad kind", Check.RANGE, () -> x.catcher(0, 0, 0, 0, 7));
  }

  /** Class 5, SLOT 3, and the first and last of span, target and kind. */
  private static void edges() {
    for (int span : new int[] {0, 1, 31, 32, 1023}) {
      for (int target : new int[] {0, 23}) {
        for (int kind = 0; kind < 7; kind++) {
          JavaChain x = new JavaChain();
          x.define(5, -1);
          x.method(5, 3, -1, -1, 0);
          x.method(5, 2, -1, -1, 0);
          int last = kind;
          Check.due("first", 1, x.catcher(5, 3, span, target, kind));
          Check.due("second", 2, x.catcher(5, 3, span, target, kind));
          Check.thrown("third", Check.STATE, () -> x.catcher(5, 3, span, target, last));
          Check.due("another METHOD has its own", 1, x.catcher(5, 2, span, target, kind));
        }
      }
    }
    JavaChain two = Write.ints(Write.pairs("PUSH 1; PUSH 0; DIV; RETURN; PUSH 5; RETURN"));
    two.catcher(0, 0, Write.span(0, 0), 4, Write.ALL);
    two.catcher(0, 0, Write.span(3, 4), 4, Write.ALL);
    Check.thrown("a third, which would be around it", Check.STATE, () -> two.catcher(0, 0, Write.span(2, 3), 4, 6));
    Check.ends("is not there", two, 99, true, 1, 0, 3, 1);
  }

  /** Throws an OBJECT of class 2, below 1, below 0; what is caught answers 10, else 20. */
  private static JavaChain thrower(int firstKind, int secondKind) {
    JavaChain x = Write.ints(Write.NEW, 2, Write.THROW, 0, Write.DROP, 0, Write.PUSH, 10, Write.RETURN, 0,
        Write.PUSH, 20, Write.RETURN, 0);
    x.define(1, 0);
    x.define(2, 1);
    x.define(3, 1);
    x.catcher(0, 0, Write.span(0, 2), firstKind == Write.ALL ? 5 : 2, firstKind);
    x.catcher(0, 0, Write.span(0, 2), secondKind == Write.ALL ? 5 : 2, secondKind);
    return x;
  }

  private static void catchesInOrder() {
    for (int kind = 0; kind < 3; kind++) {
      JavaChain x = thrower(kind, Write.ALL);
      Check.due("verified, class " + kind, 1, x.verify());
      Check.due("by its class or one above " + kind, 10, x.run(0, 0, 0, 99, false));
      Check.due("GUARDED " + kind, 10, x.run(0, 0, 0, 99, true));
    }
    Check.due("not by one below or beside", 20, thrower(3, Write.ALL).run(0, 0, 0, 99, true));
    Check.due("the first one", 20, thrower(Write.ALL, 2).run(0, 0, 0, 99, true));
    JavaChain none = thrower(3, 3);
    Check.thrown("none", Check.STATE, () -> none.run(0, 0, 0, 99, true));
    Check.due("THROWN", 7, none.outcome(0));
    Check.due("of class 2", 2, none.outcome(1));
  }

  private static void emptiesTheStack() {
    JavaChain x = Write.ints(Write.PUSH, 1, Write.TWICE, 0, Write.TWICE, 0, Write.TWICE, 0, Write.PUSH, 0,
        Write.DIV, 0, Write.RETURN, 0, Write.PUSH, 8, Write.TWICE, 0, Write.TWICE, 0, Write.TWICE, 0, Write.TWICE, 0,
        Write.ADD, 0, Write.RETURN, 0);
    x.catcher(0, 0, Write.span(5, 6), 7, Write.ALL);
    Check.due("room for five behind a SIGNAL", 16, x.run(0, 0, 0, 99, true));
    Check.due("verified", 1, x.verify());
    JavaChain own = Write.single(Write.NONE, Write.NONE, 10, Write.PUSH, 1, Write.LOAD, 0, Write.THROW, 0,
        Write.PUSH, 1, Write.TWICE, 0, Write.TWICE, 0, Write.TWICE, 0, Write.DROP, 0, Write.DROP, 0, Write.DROP, 0,
        Write.DROP, 0, Write.RETURN, 0);
    own.catcher(0, 0, Write.span(2, 3), 3, 0);
    Check.due("just the OBJECT, by its own class 0", 0, own.run(0, 0, 0, 99, true));
    Check.due("OBJECT verified", 1, own.verify());
    Check.due("OBJECT, not GUARDED", 0, own.run(0, 0, 0, 99, false));
    JavaChain signal = Write.ints(Write.PUSH, 1, Write.PUSH, 0, Write.DIV, 0, Write.RETURN, 0, Write.DROP, 0,
        Write.PUSH, 1, Write.RETURN, 0);
    signal.catcher(0, 0, Write.span(0, 3), 4, 0);
    Check.thrown("a SIGNAL is of no class", Check.STATE, () -> signal.run(0, 0, 0, 99, true));
    Check.due("ARITHMETIC", 1, signal.outcome(0));
  }

  private static void spans() {
    for (int from = 0; from < 5; from++) {
      for (int to = 0; to < 6; to++) {
        JavaChain x = Write.ints(Write.PUSH, 1, Write.PUSH, 0, Write.DIV, 0, Write.RETURN, 0,
            Write.PUSH, 5, Write.RETURN, 0);
        x.catcher(0, 0, Write.span(from, to), 4, Write.ALL);
        int got = x.outcome(0);
        try {
          got = x.run(0, 0, 0, 99, true);
        } catch (IllegalStateException e) {
          got = -x.outcome(0);
        }
        Check.due("span " + from + " " + to, from <= 2 && 2 < to ? 5 : -1, got);
      }
    }
  }

  private static void endsVerified() {
    JavaChain x = Write.ints(Write.PUSH, 7, Write.RETURN, 0);
    x.verify();
    Check.thrown("a catcher that throws", Check.RANGE, () -> x.catcher(0, 0, 0, 0, 7));
    Check.due("changes nothing", 7, x.run(0, 0, 0, 9, false));
    x.catcher(0, 0, 0, 0, 0);
    Check.thrown("a catcher ends VERIFIED", Check.SUPPORT, () -> x.run(0, 0, 0, 9, false));
  }
}
