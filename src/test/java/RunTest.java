/** Promise 10: each INSTRUCTION, and what is thrown before a RUNNING begins. */
public final class RunTest {
  private static final int MIN = Integer.MIN_VALUE;

  public static void main(String[] args) {
    refuses();
    edgesOfNumbers();
    everyParameter();
    verifiedOrGuarded();
    numbers();
    jumps();
    references();
    objects();
    calls();
    rows();
    freshRows();
    parameters();
    guards();
    limits();
    Check.end();
  }

  /** The answer of both ways to run, or minus 100 times the OUTCOME if there is none. */
  private static void due(String what, int want, JavaChain x, int a, int b) {
    Check.due(what + ", GUARDED", want, answer(x, a, b, true));
    try {
      x.verify();
    } catch (UnsupportedOperationException e) {
      Check.tell(what, "no FAULT", x.fault(true) + " at " + x.fault(false));
    }
    Check.due(what + ", not GUARDED", want, answer(x, a, b, false));
  }

  private static int answer(JavaChain x, int a, int b, boolean guarded) {
    try {
      return x.run(0, a, b, 400, guarded);
    } catch (IllegalStateException e) {
      return -100 * x.outcome(0);
    }
  }

  private static void refuses() {
    JavaChain x = Write.ints(Write.LOAD, 1, Write.RETURN, 0);
    x.define(1, -1);
    x.define(3, 0);
    x.method(1, 1, Write.NONE, Write.NONE, Write.INT);
    Check.thrown("k -1", Check.RANGE, () -> x.run(-1, 0, 0, 1, true));
    Check.thrown("k 6", Check.RANGE, () -> x.run(6, 0, 0, 1, true));
    Check.thrown("fuel 0", Check.RANGE, () -> x.run(0, 0, 0, 0, true));
    Check.thrown("fuel 401", Check.RANGE, () -> x.run(0, 0, 0, 401, true));
    Check.thrown("fuel before class", Check.RANGE, () -> x.run(2, 0, 0, 401, false));
    Check.thrown("class not there, before VERIFIED", Check.NOT_THERE, () -> x.run(2, 0, 0, 1, false));
    Check.thrown("not VERIFIED, before the METHOD", Check.SUPPORT, () -> x.run(1, 0, 0, 1, false));
    Check.thrown("no METHOD for SLOT 0", Check.INDEX, () -> x.run(1, 0, 0, 1, true));
    Check.due("no RUNNING yet", -1, x.outcome(0));
    Check.due("just enough FUEL", 5, x.run(0, 5, 0, 2, true));
    Check.due("the SUPER's METHOD", 6, x.run(3, 6, 0, 400, true));
    Check.thrown("no METHOD, again", Check.INDEX, () -> x.run(1, 0, 0, 1, true));
    Check.due("the RUNNING before stays", 2, x.outcome(2));
    Write.code(x, 1, 1, Write.PUSH, 1, Write.RETURN, 0);
    x.verify();
    Check.thrown("no METHOD, VERIFIED", Check.INDEX, () -> x.run(1, 0, 0, 1, false));
    Check.due("VERIFIED", 7, x.run(3, 7, 0, 400, false));
  }

  /** "fuel 1 .. 400", class 5, and any a and b. */
  private static void edgesOfNumbers() {
    JavaChain x = new JavaChain();
    x.define(5, -1);
    x.method(5, 0, Write.INT, Write.INT, Write.INT);
    Write.code(x, 5, 0, "LOAD 1; LOAD 2; SUB; RETURN");
    x.verify();
    for (boolean guarded : new boolean[] {true, false}) {
      Check.due("FUEL 400", 4, x.run(5, 9, 5, 400, guarded));
      Check.due("FUEL 4", 4, x.run(5, 9, 5, 4, guarded));
      Check.thrown("FUEL 1", Check.STATE, () -> x.run(5, 9, 5, 1, guarded));
      Check.outcome("FUEL 1", x, 5, 0, 1, 1);
      Check.due("the least a", MIN, x.run(5, MIN, 0, 9, guarded));
      Check.due("the most b", MIN + 1, x.run(5, 0, Integer.MAX_VALUE, 9, guarded));
    }
  }

  /** "PARAMETERS that are INT are a and then b, others null": told by METHOD 1, which gets them in its FIELDS. */
  private static void everyParameter() {
    int[] types = {-1, 0, 1, 10};
    for (int one : types) {
      for (int two : one == -1 ? new int[] {-1} : types) {
        JavaChain x = new JavaChain();
        x.define(0, -1);
        x.field(0, one == -1 ? 0 : one);
        x.field(0, two == -1 ? 0 : two);
        x.method(0, 0, one, two, 0);
        Write.code(x, 0, 0, (one == -1 ? "" : "LOAD 0; LOAD 1; SET 0; ") + (two == -1 ? "" : "LOAD 0; LOAD 2; SET 1; ")
            + "PUSH 3; RETURN");
        String what = "PARAMETERS " + one + " " + two;
        Check.due(what, 3, x.run(0, 61, 62, 99, true));
        Check.due(what + ": one", one == -1 ? 0 : one == 0 ? 61 : -1, x.heap(0, 0));
        Check.due(what + ": two", two == -1 ? 0 : two == 0 ? (one == 0 ? 62 : 61) : -1, x.heap(0, 1));
      }
    }
  }

  /** "Not GUARDED, and not VERIFIED: UnsupportedOperationException" */
  private static void verifiedOrGuarded() {
    JavaChain x = Write.ints("LOAD 1; RETURN");
    Check.thrown("never VERIFIED", Check.SUPPORT, () -> x.run(0, 5, 0, 9, false));
    Check.due("GUARDED", 5, x.run(0, 5, 0, 9, true));
    Check.thrown("a RUNNING does not verify", Check.SUPPORT, () -> x.run(0, 5, 0, 9, false));
    x.verify();
    Check.due("VERIFIED", 6, x.run(0, 6, 0, 9, false));
    Check.due("VERIFIED and GUARDED", 7, x.run(0, 7, 0, 9, true));
    Check.due("still VERIFIED", 8, x.run(0, 8, 0, 9, false));
    x.method(0, 3, Write.NONE, Write.NONE, Write.INT);
    Check.thrown("a FAULT in another METHOD", Check.SUPPORT, x::verify);
    Check.thrown("nothing is VERIFIED", Check.SUPPORT, () -> x.run(0, 8, 0, 9, false));
    Check.due("but GUARDED", 9, x.run(0, 9, 0, 9, true));
  }

  private static void pair(int operation, int a, int b, int want) {
    due(a + " " + operation + " " + b, want,
        Write.ints(Write.LOAD, 1, Write.LOAD, 2, operation, 0, Write.RETURN, 0), a, b);
  }

  private static void numbers() {
    pair(Write.ADD, 2, 3, 5);
    pair(Write.ADD, Integer.MAX_VALUE, 1, MIN);
    pair(Write.SUB, 2, 5, -3);
    pair(Write.SUB, MIN, 1, Integer.MAX_VALUE);
    pair(Write.MUL, -7, 6, -42);
    pair(Write.MUL, 65536, 65536, 0);
    pair(Write.DIV, 7, 2, 3);
    pair(Write.DIV, -7, 2, -3);
    pair(Write.DIV, 7, -2, -3);
    pair(Write.DIV, MIN, -1, MIN);
    pair(Write.DIV, 7, 0, -100);
    pair(Write.DIV, 0, 0, -100);
    due("PUSH", MIN, Write.ints(Write.PUSH, MIN, Write.RETURN, 0), 0, 0);
    due("STORE and LOAD", 8, Write.ints(Write.LOAD, 1, Write.STORE, 5, Write.PUSH, 1, Write.STORE, 1,
        Write.LOAD, 5, Write.RETURN, 0), 8, 0);
    due("DROP", 8, Write.ints(Write.LOAD, 1, Write.LOAD, 2, Write.DROP, 0, Write.RETURN, 0), 8, 9);
    due("TWICE", 64, Write.ints(Write.LOAD, 1, Write.TWICE, 0, Write.MUL, 0, Write.RETURN, 0), 8, 9);
  }

  private static void jumps() {
    JavaChain zero = Write.ints(Write.LOAD, 1, Write.ZERO, 4, Write.PUSH, 11, Write.RETURN, 0,
        Write.PUSH, 22, Write.RETURN, 0);
    due("ZERO 0", 22, zero, 0, 0);
    due("ZERO 1", 11, zero, 1, 0);
    due("ZERO -1", 11, zero, -1, 0);
    JavaChain less = Write.ints(Write.LOAD, 1, Write.LOAD, 2, Write.LESS, 5, Write.PUSH, 11, Write.RETURN, 0,
        Write.PUSH, 22, Write.RETURN, 0);
    due("1 below 2", 22, less, 1, 2);
    due("2 below 1", 11, less, 2, 1);
    due("2 below 2", 11, less, 2, 2);
    due("least below most", 22, less, MIN, Integer.MAX_VALUE);
    JavaChain sum = Write.ints(Write.LOAD, 1, Write.ZERO, 11, Write.LOAD, 1, Write.LOAD, 2, Write.ADD, 0,
        Write.STORE, 2, Write.LOAD, 1, Write.PUSH, 1, Write.SUB, 0, Write.STORE, 1, Write.GOTO, 0,
        Write.LOAD, 2, Write.RETURN, 0);
    due("a loop", 60, sum, 10, 5);
    due("a loop without end", -500, sum, -1, 5);
  }

  private static void references() {
    due("ISNULL of null", 22, Write.ints(Write.EMPTY, 0, Write.ISNULL, 4, Write.PUSH, 11, Write.RETURN, 0,
        Write.PUSH, 22, Write.RETURN, 0), 0, 0);
    due("ISNULL of the first OBJECT", 11, Write.ints(Write.LOAD, 0, Write.ISNULL, 4, Write.PUSH, 11,
        Write.RETURN, 0, Write.PUSH, 22, Write.RETURN, 0), 0, 0);
    due("SAME of nulls", 1, Write.ints(Write.EMPTY, 0, Write.EMPTY, 0, Write.SAME, 0, Write.RETURN, 0), 0, 0);
    due("SAME of one", 1, Write.ints(Write.NEW, 0, Write.TWICE, 0, Write.SAME, 0, Write.RETURN, 0), 0, 0);
    due("SAME of two", 0, Write.ints(Write.NEW, 0, Write.NEW, 0, Write.SAME, 0, Write.RETURN, 0), 0, 0);
    due("SAME of OBJECT and null", 0, Write.ints(Write.LOAD, 0, Write.EMPTY, 0, Write.SAME, 0, Write.RETURN, 0), 0, 0);
    due("null as RESULT", -1, Write.single(0, -1, 10, Write.EMPTY, 0, Write.RETURN, 0), 0, 0);
    due("the OBJECT itself", 0, Write.single(0, -1, 10, Write.LOAD, 0, Write.RETURN, 0), 0, 0);
    due("a ROW as RESULT", 2, Write.single(0, -1, 1, Write.NEW, 0, Write.PUSH, 3, Write.ROW, 0,
        Write.RETURN, 0), 0, 0);
    for (int operation : new int[] {Write.SIZE, Write.GET, Write.THROW}) {
      JavaChain x = Write.ints(Write.EMPTY, 0, operation, 0, Write.RETURN, 0);
      x.field(0, Write.INT);
      due("null for " + operation, -200, x, 0, 0);
    }
    due("null for CAST", -1, Write.single(0, -1, 10, Write.EMPTY, 0, Write.CAST, 0, Write.RETURN, 0), 0, 0);
    due("null for AT", -200, Write.ints(Write.EMPTY, 0, Write.PUSH, 0, Write.AT, 0, Write.RETURN, 0), 0, 0);
    due("null for TO", -200, Write.ints(Write.EMPTY, 0, Write.PUSH, 0, Write.PUSH, 0, Write.TO, 0,
        Write.PUSH, 0, Write.RETURN, 0), 0, 0);
    due("null for CALL", -200, Write.single(-1, -1, 0, Write.EMPTY, 0, Write.CALL, 0, Write.RETURN, 0), 0, 0);
    JavaChain set = Write.ints(Write.EMPTY, 0, Write.PUSH, 0, Write.SET, 0, Write.PUSH, 0, Write.RETURN, 0);
    set.field(0, Write.INT);
    due("null for SET", -200, set, 0, 0);
  }

  private static void objects() {
    JavaChain x = Write.ints(Write.LOAD, 0, Write.GET, 0, Write.LOAD, 0, Write.LOAD, 1, Write.SET, 0,
        Write.LOAD, 0, Write.GET, 0, Write.ADD, 0, Write.LOAD, 0, Write.GET, 1, Write.ISNULL, 13,
        Write.PUSH, 1000, Write.ADD, 0, Write.RETURN, 0);
    x.field(0, Write.INT);
    x.field(0, 10);
    due("FIELDS are 0 and null, then as SET", 5, x, 5, 0);
    JavaChain kept = Write.ints(Write.LOAD, 0, Write.LOAD, 1, Write.ROW, 0, Write.SET, 0, Write.LOAD, 0, Write.GET, 0,
        Write.SIZE, 0, Write.RETURN, 0);
    kept.field(0, Write.ROWS);
    due("a FIELD keeps a ROW", 6, kept, 6, 0);
    JavaChain typed = Write.ints(Write.LOAD, 0, Write.NEW, 1, Write.SET, 0, Write.LOAD, 0, Write.GET, 0, Write.GET, 33,
        Write.RETURN, 0);
    typed.field(0, 10);
    typed.define(1, 0);
    typed.field(1, Write.INT);
    Check.due("a value in a FIELD has the TYPE of its own class", 0, typed.run(0, 0, 0, 99, true));
    Check.thrown("which VERIFYING does not know", Check.SUPPORT, typed::verify);
    for (int made = 0; made < 4; made++) {
      for (int asked = 0; asked < 4; asked++) {
        JavaChain cast = Write.ints(Write.NEW, made, Write.CAST, asked, Write.DROP, 0, Write.PUSH, 1, Write.RETURN, 0);
        cast.define(1, 0);
        cast.define(2, 1);
        cast.define(3, 0);
        boolean fits = made == asked || asked == 0 || made == 2 && asked == 1;
        due("CAST of " + made + " to " + asked, fits ? 1 : -400, cast, 0, 0);
      }
    }
  }

  private static void calls() {
    JavaChain x = new JavaChain();
    x.define(0, -1);
    x.define(1, 0);
    x.define(2, 1);
    x.method(0, 0, Write.INT, Write.INT, Write.INT);
    Write.code(x, 0, 0, Write.LOAD, 1, Write.ZERO, 4, Write.NEW, 2, Write.GOTO, 5, Write.NEW, 0, Write.LOAD, 2,
        Write.LOAD, 1, Write.CALL, 1, Write.PUSH, 1000, Write.ADD, 0, Write.RETURN, 0);
    x.method(0, 1, Write.INT, Write.INT, Write.INT);
    Write.code(x, 0, 1, Write.LOAD, 1, Write.LOAD, 2, Write.SUB, 0, Write.RETURN, 0);
    x.method(1, 1, Write.INT, Write.INT, Write.INT);
    Write.code(x, 1, 1, Write.LOAD, 1, Write.LOAD, 2, Write.DIV, 0, Write.RETURN, 0);
    due("the METHOD of the OBJECT's class", 1007, x, 0, 7);
    due("the METHOD that it has from above", 1003, x, 2, 7);
    JavaChain caught = new JavaChain();
    caught.define(0, -1);
    caught.method(0, 0, Write.INT, Write.INT, Write.INT);
    Write.code(caught, 0, 0, Write.LOAD, 1, Write.STORE, 3, Write.PUSH, 7, Write.LOAD, 0, Write.CALL, 1,
        Write.RETURN, 0, Write.LOAD, 3, Write.RETURN, 0);
    caught.catcher(0, 0, Write.span(4, 5), 6, Write.ALL);
    caught.method(0, 1, Write.NONE, Write.NONE, Write.INT);
    Write.code(caught, 0, 1, Write.PUSH, 1, Write.STORE, 3, Write.LOAD, 0, Write.CALL, 2, Write.RETURN, 0);
    caught.method(0, 2, Write.NONE, Write.NONE, Write.INT);
    Write.code(caught, 0, 2, Write.PUSH, 1, Write.TWICE, 0, Write.TWICE, 0, Write.SUB, 0, Write.DIV, 0,
        Write.RETURN, 0);
    due("a SIGNAL that leaves two METHODS", 42, caught, 42, 0);
  }

  private static void rows() {
    for (int n = -1; n < 10; n++) {
      due("ROW " + n, n < 0 || n > 8 ? -300 : n,
          Write.ints(Write.LOAD, 1, Write.ROW, 0, Write.SIZE, 0, Write.RETURN, 0), n, 0);
      JavaChain x = Write.ints(Write.PUSH, 3, Write.ROW, 0, Write.TWICE, 0, Write.LOAD, 1, Write.LOAD, 2, Write.TO, 0,
          Write.LOAD, 1, Write.AT, 0, Write.RETURN, 0);
      due("TO " + n, n < 0 || n > 2 ? -300 : 77, x, n, 77);
      due("AT " + n, n < 0 || n > 2 ? -300 : 0,
          Write.ints(Write.PUSH, 3, Write.ROW, 0, Write.LOAD, 1, Write.AT, 0, Write.RETURN, 0), n, 77);
    }
  }

  private static void freshRows() {
    JavaChain x = Write.ints(Write.PUSH, 8, Write.ROW, 0, Write.STORE, 3, Write.LOAD, 3, Write.LOAD, 1, Write.AT, 0,
        Write.LOAD, 3, Write.LOAD, 1, Write.LOAD, 2, Write.TO, 0, Write.RETURN, 0);
    due("a new ROW is of 0", 0, x, 7, 5);
    due("in a later RUNNING too", 0, x, 7, 6);
    Check.due("what was put there", 6, x.heap(1, 7));
  }

  private static void parameters() {
    JavaChain both = Write.ints(Write.LOAD, 1, Write.PUSH, 100, Write.MUL, 0, Write.LOAD, 2, Write.ADD, 0,
        Write.RETURN, 0);
    due("a and then b", 506, both, 5, 6);
    due("a alone", 5, Write.single(0, -1, 0, Write.LOAD, 1, Write.RETURN, 0), 5, 6);
    due("a before a ROW", 5, Write.single(0, 1, 0, Write.LOAD, 1, Write.RETURN, 0), 5, 6);
    due("the only one that is INT is a", 5, Write.single(1, 0, 0, Write.LOAD, 2, Write.RETURN, 0), 5, 6);
    due("a ROW is null", -1, Write.single(1, 0, 1, Write.LOAD, 1, Write.RETURN, 0), 5, 6);
    due("an OBJECT is null", -1, Write.single(0, 10, 10, Write.LOAD, 2, Write.RETURN, 0), 5, 6);
  }

  private static void guards() {
    fault("4: no INSTRUCTION", 4, 0, Write.ints());
    fault("4: none behind", 4, 1, Write.ints(Write.PUSH, 1, Write.PUSH, 1));
    fault("4: a jump that is not done", 4, 1, Write.ints(Write.PUSH, 1, Write.ZERO, 9, Write.PUSH, 1, Write.RETURN, 0));
    fault("5: LOCAL", 5, 0, Write.ints(Write.LOAD, 6, Write.RETURN, 0));
    fault("5: class", 5, 1, Write.ints(Write.PUSH, 1, Write.NEW, 1, Write.RETURN, 0));
    fault("5: FIELD", 5, 1, Write.ints(Write.LOAD, 0, Write.GET, 0, Write.RETURN, 0));
    fault("5: METHOD", 5, 1, Write.ints(Write.LOAD, 0, Write.CALL, 1, Write.RETURN, 0));
    fault("1: too little", 1, 0, Write.ints(Write.RETURN, 0));
    fault("1: more than 5", 1, 5, Write.ints(Write.PUSH, 1, Write.TWICE, 0, Write.TWICE, 0, Write.TWICE, 0,
        Write.TWICE, 0, Write.LOAD, 0, Write.RETURN, 0));
    for (int local = 1; local < 6; local++) {
      fault("2: LOCAL NONE without PARAMETERS", 2, 0,
          Write.single(Write.NONE, Write.NONE, Write.INT, Write.LOAD, local, Write.DROP, 0,
              Write.PUSH, 1, Write.RETURN, 0));
    }
    fault("2: LOCAL NONE behind one", 2, 0,
        Write.single(Write.INT, Write.NONE, 10, Write.LOAD, 2, Write.RETURN, 0));
    fault("2: LOCAL NONE behind two", 2, 0,
        Write.single(Write.INT, Write.INT, 10, Write.LOAD, 3, Write.RETURN, 0));
    fault("2: null is no INT", 2, 1, Write.ints(Write.EMPTY, 0, Write.RETURN, 0));
    fault("2: an OBJECT is no ROW", 2, 1, Write.ints(Write.LOAD, 0, Write.SIZE, 0, Write.RETURN, 0));
    JavaChain kind = Write.ints(Write.PUSH, 1, Write.RETURN, 0);
    kind.catcher(0, 0, Write.span(1, 2), 0, 4);
    fault("5: class of a CATCHER", 5, 1, kind);
    JavaChain target = Write.ints(Write.PUSH, 1, Write.RETURN, 0);
    target.catcher(0, 0, Write.span(1, 2), 2, 0);
    fault("4: TARGET", 4, 1, target);
    JavaChain uncaught = Write.ints(Write.PUSH, 1, Write.ADD, 0, Write.RETURN, 0);
    uncaught.catcher(0, 0, Write.span(0, 3), 2, Write.ALL);
    fault("a FAULT is not caught", 1, 1, uncaught);
    ownTypes();
  }

  private static void ownTypes() {
    JavaChain x = Write.single(Write.INT, Write.NONE, 10, Write.LOAD, 1, Write.ZERO, 4, Write.PUSH, 9, Write.GOTO, 5,
        Write.LOAD, 0, Write.RETURN, 0);
    Check.thrown("an INT and an OBJECT meet", Check.SUPPORT, x::verify);
    Check.due("yet this way is fine", 0, x.run(0, 0, 0, 99, true));
    Check.thrown("that one is not", Check.STATE, () -> x.run(0, 1, 0, 99, true));
    Check.due("for its TYPE", 2, x.outcome(1));
    JavaChain down = Write.single(11, Write.NONE, Write.INT, Write.LOAD, 0, Write.GET, 32, Write.RETURN, 0);
    down.define(1, 0);
    down.field(1, Write.INT);
    Check.thrown("the class is not known to be 1", Check.SUPPORT, down::verify);
    Check.due("but it is", 0, down.run(1, 0, 0, 99, true));
    Check.thrown("here it is not", Check.STATE, () -> down.run(0, 0, 0, 99, true));
    JavaChain strange = Write.single(15, Write.NONE, Write.INT, Write.PUSH, 4, Write.RETURN, 0);
    Check.thrown("class 5 is not there", Check.SUPPORT, strange::verify);
    Check.due("which is no FAULT when GUARDED", 4, strange.run(0, 0, 0, 99, true));
  }

  private static void fault(String what, int number, int done, JavaChain x) {
    Check.thrown(what, Check.STATE, () -> x.run(0, 1, 2, 400, true));
    Check.due(what + ": OUTCOME", 8, x.outcome(0));
    Check.due(what + ": number", number, x.outcome(1));
    Check.due(what + ": done", done, x.outcome(2));
  }

  private static void limits() {
    JavaChain deep = Write.ints(Write.LOAD, 1, Write.ZERO, 9, Write.LOAD, 0, Write.LOAD, 1, Write.PUSH, 1,
        Write.SUB, 0, Write.LOAD, 2, Write.CALL, 0, Write.RETURN, 0, Write.LOAD, 2, Write.RETURN, 0);
    due("12 METHODS", 3, deep, 11, 3);
    due("13 METHODS", -600, deep, 12, 3);
    deep.define(1, -1);
    JavaChain many = Write.ints(Write.LOAD, 1, Write.ZERO, 9, Write.NEW, 0, Write.DROP, 0, Write.LOAD, 1,
        Write.PUSH, 1, Write.SUB, 0, Write.STORE, 1, Write.GOTO, 0, Write.LOAD, 2, Write.ROW, 0, Write.SIZE, 0,
        Write.RETURN, 0);
    due("40 made", 3, many, 38, 3);
    due("a ROW as the 41st", -600, many, 39, 3);
    due("a ROW that is none", -300, many, 39, 9);
    due("an OBJECT as the 41st", -600, many, 40, 3);
    JavaChain caught = Write.ints(Write.LOAD, 0, Write.LOAD, 1, Write.LOAD, 2, Write.CALL, 0, Write.RETURN, 0,
        Write.PUSH, 1, Write.RETURN, 0);
    caught.catcher(0, 0, Write.span(0, 5), 5, Write.ALL);
    due("too much is not caught", -600, caught, 0, 0);
  }
}
