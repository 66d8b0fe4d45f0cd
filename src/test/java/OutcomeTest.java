/** Promise 11. */
public final class OutcomeTest {
  public static void main(String[] args) {
    JavaChain x = new JavaChain();
    due("no RUNNING", x, -1, 0, 0, 0);
    Check.thrown("what -1", Check.RANGE, () -> x.outcome(-1));
    Check.thrown("what 4", Check.RANGE, () -> x.outcome(4));

    of("a RESULT", Write.ints(Write.PUSH, 3, Write.NEW, 0, Write.DROP, 0, Write.RETURN, 0), 0, 0, 4, 2);
    of("ARITHMETIC", Write.ints(Write.PUSH, 3, Write.PUSH, 0, Write.DIV, 0, Write.RETURN, 0), 1, 0, 3, 1);
    of("MISSING", Write.ints(Write.EMPTY, 0, Write.SIZE, 0, Write.RETURN, 0), 2, 0, 2, 1);
    of("BOUNDS", Write.ints(Write.PUSH, 9, Write.ROW, 0, Write.SIZE, 0, Write.RETURN, 0), 3, 0, 2, 1);
    JavaChain cast = Write.ints(Write.LOAD, 0, Write.CAST, 1, Write.THROW, 0);
    cast.define(1, 0);
    of("CASTING", cast, 4, 0, 2, 1);
    of("FUEL", Write.ints(Write.GOTO, 0), 5, 0, 50, 1);
    of("METHODS", Write.single(-1, -1, 0, Write.LOAD, 0, Write.CALL, 0, Write.RETURN, 0), 6, 0, 24, 1);
    of("ROWS", Write.ints(Write.PUSH, 0, Write.ROW, 0, Write.STORE, 1, Write.GOTO, 0), 5, 0, 50, 14);
    JavaChain thrown = Write.ints(Write.NEW, 5, Write.THROW, 0);
    thrown.define(5, -1);
    of("THROWN", thrown, 7, 5, 2, 2);
    of("a FAULT", Write.ints(Write.NEW, 0, Write.ADD, 0, Write.RETURN, 0), 8, 1, 1, 2);
    fuel();
    made();
    latest();
    eachAfterEach();
    Check.end();
  }

  private static void of(String what, JavaChain x, int... want) {
    try {
      x.run(0, 0, 0, 50, true);
    } catch (IllegalStateException e) {
      Check.due(what + ": no RESULT", 1, want[0] == 0 ? 0 : 1);
    }
    due(what, x, want);
  }

  private static void due(String what, JavaChain x, int... want) {
    for (int i = 0; i < 4; i++) {
      Check.due(what + ": outcome(" + i + ")", want[i], x.outcome(i));
    }
  }

  private static void fuel() {
    JavaChain x = Write.ints(Write.PUSH, 3, Write.PUSH, 4, Write.RETURN, 0, Write.RETURN, 0);
    Check.due("enough", 4, x.run(0, 0, 0, 3, true));
    Check.thrown("not enough", Check.STATE, () -> x.run(0, 0, 0, 2, true));
    due("not enough", x, 5, 0, 2, 1);
    JavaChain faulty = Write.ints(Write.PUSH, 3, Write.ADD, 0, Write.RETURN, 0);
    Check.thrown("no FUEL before the FAULT", Check.STATE, () -> faulty.run(0, 0, 0, 1, true));
    due("none is looked at without FUEL", faulty, 5, 0, 1, 1);
    Check.thrown("FUEL for the FAULT", Check.STATE, () -> faulty.run(0, 0, 0, 2, true));
    due("it is looked at", faulty, 8, 1, 1, 1);
    JavaChain last = Write.ints(Write.PUSH, 3, Write.PUSH, 0, Write.DIV, 0, Write.RETURN, 0);
    Check.thrown("a SIGNAL with the last FUEL", Check.STATE, () -> last.run(0, 0, 0, 3, true));
    due("a SIGNAL with the last FUEL", last, 1, 0, 3, 1);
  }

  private static void made() {
    JavaChain x = Write.ints(Write.NEW, 0, Write.DROP, 0, Write.GOTO, 0);
    Check.thrown("41 OBJECTS", Check.STATE, () -> x.run(0, 0, 0, 400, true));
    due("41 OBJECTS", x, 6, 0, 118, 40);
  }

  private static void latest() {
    JavaChain x = Write.ints(Write.LOAD, 1, Write.ZERO, 4, Write.PUSH, 1, Write.RETURN, 0,
        Write.LOAD, 0, Write.THROW, 0);
    x.verify();
    Check.thrown("THROWN", Check.STATE, () -> x.run(0, 0, 0, 400, false));
    due("THROWN of class 0", x, 7, 0, 4, 1);
    Check.thrown("a run that is refused", Check.RANGE, () -> x.run(0, 0, 0, 0, false));
    x.define(1, 0);
    Check.thrown("not VERIFIED", Check.SUPPORT, () -> x.run(0, 0, 0, 1, false));
    due("still the latest", x, 7, 0, 4, 1);
    Check.due("another one", 1, x.run(0, 1, 0, 400, true));
    due("another one", x, 0, 0, 4, 1);
  }

  /** "Of the latest RUNNING": nothing is left of the one before, whichever it was. */
  private static void eachAfterEach() {
    JavaChain x = Write.family();
    Write.method(x, 0, 0, "PUSH 5; RETURN");
    x.method(1, 0, Write.NONE, Write.NONE, Write.INT);
    Write.code(x, 1, 0, "NEW 0; NEW 3; THROW");
    x.method(2, 0, Write.NONE, Write.NONE, Write.INT);
    Write.code(x, 2, 0, "NEW 0; NEW 0; NEW 0; ADD; RETURN");
    x.method(3, 0, Write.NONE, Write.NONE, Write.INT);
    Write.code(x, 3, 0, "NEW 0; DROP; GOTO 0");
    x.method(4, 0, Write.NONE, Write.NONE, Write.INT);
    Write.code(x, 4, 0, "NEW 0; DROP; GOTO 2");
    x.method(5, 0, Write.NONE, Write.NONE, Write.INT);
    Write.code(x, 5, 0, "EMPTY; THROW");
    int[][] want = {{0, 0, 2, 1}, {7, 3, 3, 3}, {8, 2, 3, 4}, {6, 0, 118, 40}, {5, 0, 200, 2}, {2, 0, 2, 1}};
    for (int before = 0; before < 6; before++) {
      for (int after = 0; after < 6; after++) {
        ends(x, before, want[before]);
        ends(x, after, want[after]);
      }
    }
  }

  private static void ends(JavaChain x, int k, int[] want) {
    if (want[0] == 0) {
      Check.due("a RESULT", 5, x.run(k, 0, 0, 200, true));
    } else {
      Check.thrown("OUTCOME " + want[0], Check.STATE, () -> x.run(k, 0, 0, 200, true));
    }
    due("OUTCOME " + want[0], x, want);
  }
}
