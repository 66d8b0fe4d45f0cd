/** Promise 7: what is VERIFIED, how many METHODS, and each FAULT in its order. */
public final class VerifyTest {
  public static void main(String[] args) {
    answers();
    places();
    names();
    heights();
    types();
    meetings();
    orderOfFaults();
    orderOfMethods();
    classesOfTypes();
    everyClassOfTypes();
    beforeAllElse();
    onceMore();
    Check.end();
  }

  /** WHY and WHERE of the FAULT; 0 0 if there is none. */
  private static void due(String what, int why, int where, JavaChain x) {
    if (why == 0) {
      try {
        x.verify();
      } catch (UnsupportedOperationException e) {
        Check.tell(what, "no FAULT", x.fault(true) + " at " + x.fault(false));
      }
      Check.due(what + ": no WHY", -1, x.fault(true));
      Check.due(what + ": no WHERE", -1, x.fault(false));
      return;
    }
    Check.thrown(what, Check.SUPPORT, x::verify);
    Check.due(what + ": WHY", why, x.fault(true));
    Check.due(what + ": WHERE", where, x.fault(false));
  }

  private static void answers() {
    JavaChain x = new JavaChain();
    Check.due("no class", 0, x.verify());
    x.define(0, -1);
    x.define(1, 0);
    Check.due("no METHOD", 0, x.verify());
    for (int slot = 0; slot < 4; slot++) {
      x.method(1, slot, Write.INT, Write.INT, Write.INT);
      Write.code(x, 1, slot, Write.PUSH, slot, Write.RETURN, 0);
      Check.due("METHODS of one class", slot + 1, x.verify());
    }
    x.method(0, 0, Write.INT, Write.INT, Write.INT);
    Check.thrown("one without INSTRUCTIONS", Check.SUPPORT, x::verify);
    Check.thrown("nothing is VERIFIED", Check.SUPPORT, () -> x.run(1, 0, 0, 9, false));
    Write.code(x, 0, 0, Write.PUSH, 9, Write.RETURN, 0);
    Check.due("METHODS of both classes", 5, x.verify());
    Check.due("VERIFIED", 9, x.run(0, 0, 0, 9, false));
    Check.due("VERIFIED too", 0, x.run(1, 0, 0, 9, false));
  }

  private static void places() {
    due("no INSTRUCTION", 4, 0, Write.ints());
    due("none behind the last", 4, 1, Write.ints(Write.PUSH, 1, Write.PUSH, 1));
    due("GOTO -1", 4, 0, Write.ints(Write.GOTO, -1, Write.RETURN, 0));
    due("GOTO beyond", 4, 0, Write.ints(Write.GOTO, 2, Write.RETURN, 0));
    due("ZERO beyond", 4, 1, Write.ints(Write.PUSH, 0, Write.ZERO, 4, Write.PUSH, 0, Write.RETURN, 0));
    due("ZERO as the last", 4, 1, Write.ints(Write.PUSH, 0, Write.ZERO, 0));
    due("LESS beyond", 4, 2,
        Write.ints(Write.PUSH, 0, Write.PUSH, 0, Write.LESS, 5, Write.PUSH, 0, Write.RETURN, 0));
    due("ISNULL beyond", 4, 1, Write.ints(Write.EMPTY, 0, Write.ISNULL, 4, Write.PUSH, 0, Write.RETURN, 0));
    due("GOTO as the last", 0, 0, Write.ints(Write.GOTO, 2, Write.RETURN, 0, Write.PUSH, 0, Write.GOTO, 1));
    due("THROW as the last", 0, 0, Write.ints(Write.LOAD, 0, Write.THROW, 0));
    JavaChain target = Write.ints(Write.PUSH, 1, Write.PUSH, 2, Write.DROP, 0, Write.RETURN, 0);
    target.catcher(0, 0, Write.span(1, 2), 4, Write.ALL);
    due("TARGET beyond", 4, 1, target);
    JavaChain spare = Write.ints(Write.PUSH, 1, Write.RETURN, 0);
    spare.catcher(0, 0, Write.span(2, 9), 9, 5);
    due("a CATCHER around nothing", 0, 0, spare);
  }

  private static void names() {
    for (int x : new int[] {-1, 6, Integer.MIN_VALUE}) {
      due("LOAD " + x, 5, 0, Write.ints(Write.LOAD, x, Write.RETURN, 0));
      due("STORE " + x, 5, 1, Write.ints(Write.PUSH, 1, Write.STORE, x, Write.PUSH, 1, Write.RETURN, 0));
    }
    due("STORE 5", 0, 0, Write.ints(Write.PUSH, 1, Write.STORE, 5, Write.LOAD, 5, Write.RETURN, 0));
    for (int x : new int[] {-1, 1, 6, Integer.MAX_VALUE}) {
      due("NEW " + x, 5, 0, Write.ints(Write.NEW, x, Write.RETURN, 0));
      due("CAST " + x, 5, 1, Write.ints(Write.LOAD, 0, Write.CAST, x, Write.RETURN, 0));
    }
    for (int x : new int[] {-32, -1, 1, 31, 32, 192, Integer.MIN_VALUE}) {
      JavaChain get = Write.ints(Write.LOAD, 0, Write.GET, x, Write.RETURN, 0);
      get.field(0, 0);
      due("GET " + x, 5, 1, get);
      JavaChain set = Write.ints(Write.LOAD, 0, Write.PUSH, 1, Write.SET, x, Write.PUSH, 1, Write.RETURN, 0);
      set.field(0, 0);
      due("SET " + x, 5, 2, set);
    }
    for (int x : new int[] {-4, -1, 1, 4, 24, Integer.MIN_VALUE}) {
      due("CALL " + x, 5, 1, Write.ints(Write.LOAD, 0, Write.CALL, x, Write.RETURN, 0));
    }
    JavaChain kind = Write.ints(Write.PUSH, 1, Write.RETURN, 0);
    kind.catcher(0, 0, Write.span(1, 2), 0, 3);
    due("class of a CATCHER", 5, 1, kind);
    inherited();
  }

  private static void inherited() {
    JavaChain x = new JavaChain();
    x.define(0, -1);
    x.field(0, Write.INT);
    x.method(0, 1, Write.NONE, Write.NONE, Write.INT);
    Write.code(x, 0, 1, Write.PUSH, 4, Write.RETURN, 0);
    x.define(1, 0);
    x.method(1, 0, Write.NONE, Write.NONE, Write.INT);
    Write.code(x, 1, 0, Write.LOAD, 0, Write.GET, 32, Write.LOAD, 0, Write.CALL, 5, Write.ADD, 0,
        Write.RETURN, 0);
    due("FIELD and METHOD of the SUPER", 0, 0, x);
    Check.due("they are found", 4, x.run(1, 0, 0, 99, false));
  }

  private static void heights() {
    due("nothing to RETURN", 1, 0, Write.ints(Write.RETURN, 0));
    due("one for ADD", 1, 1, Write.ints(Write.PUSH, 1, Write.ADD, 0, Write.RETURN, 0));
    due("two for TO", 1, 2, Write.ints(Write.PUSH, 1, Write.PUSH, 1, Write.TO, 0, Write.PUSH, 1, Write.RETURN, 0));
    due("PARAMETERS of a CALL", 1, 2,
        Write.ints(Write.LOAD, 0, Write.LOAD, 1, Write.CALL, 0, Write.RETURN, 0));
    due("five are fine", 0, 0, Write.ints(Write.PUSH, 1, Write.TWICE, 0, Write.TWICE, 0, Write.TWICE, 0,
        Write.TWICE, 0, Write.ADD, 0, Write.RETURN, 0));
    due("six", 1, 5, Write.ints(Write.PUSH, 1, Write.TWICE, 0, Write.TWICE, 0, Write.TWICE, 0,
        Write.TWICE, 0, Write.TWICE, 0, Write.RETURN, 0));
    due("six by PUSH", 1, 5, Write.ints(Write.PUSH, 1, Write.PUSH, 1, Write.PUSH, 1, Write.PUSH, 1,
        Write.PUSH, 1, Write.PUSH, 1, Write.RETURN, 0));
    due("RETURN with five", 0, 0, full(Write.RETURN));
    due("LESS with five", 0, 0, full(Write.LESS, Write.RETURN));
    for (int operation = Write.ADD; operation <= Write.DIV; operation++) {
      due(operation + " with five", 0, 0, full(operation, Write.RETURN));
    }
    due("THROW with five", 0, 0, full(Write.DROP, Write.EMPTY, Write.THROW));
    JavaChain call = Write.single(Write.NONE, Write.NONE, Write.INT, Write.PUSH, 1, Write.TWICE, 0,
        Write.TWICE, 0, Write.TWICE, 0, Write.LOAD, 0, Write.CALL, 0, Write.RETURN, 0);
    due("a CALL takes before it puts", 0, 0, call);
  }

  /** Five INTS, then these operations; a jump leads to a RETURN of just what LESS leaves. */
  private static JavaChain full(int... operations) {
    JavaChain x = Write.ints(Write.PUSH, 1, Write.TWICE, 0, Write.TWICE, 0, Write.TWICE, 0, Write.TWICE, 0);
    for (int operation : operations) {
      x.code(0, 0, operation, 6);
    }
    return x;
  }

  private static void types() {
    due("LOCAL NONE", 2, 0, Write.ints(Write.LOAD, 3, Write.RETURN, 0));
    due("PARAMETER that is not", 2, 0, Write.single(0, -1, 0, Write.LOAD, 2, Write.RETURN, 0));
    for (int operation = Write.ADD; operation <= Write.DIV; operation++) {
      due("p of " + operation, 2, 2, Write.ints(Write.LOAD, 0, Write.LOAD, 1, operation, 0, Write.RETURN, 0));
      due("q of " + operation, 2, 2, Write.ints(Write.LOAD, 1, Write.LOAD, 0, operation, 0, Write.RETURN, 0));
    }
    due("null is no INT", 2, 1, Write.ints(Write.EMPTY, 0, Write.ROW, 0, Write.SIZE, 0, Write.RETURN, 0));
    due("ZERO", 2, 1, Write.ints(Write.EMPTY, 0, Write.ZERO, 0, Write.PUSH, 0, Write.RETURN, 0));
    due("p of LESS", 2, 2, Write.ints(Write.EMPTY, 0, Write.PUSH, 0, Write.LESS, 0, Write.LOAD, 1, Write.RETURN, 0));
    due("q of LESS", 2, 2, Write.ints(Write.PUSH, 0, Write.EMPTY, 0, Write.LESS, 0, Write.LOAD, 1, Write.RETURN, 0));
    due("RETURN", 2, 1, Write.ints(Write.LOAD, 0, Write.RETURN, 0));
    due("RETURN of null", 2, 1, Write.ints(Write.EMPTY, 0, Write.RETURN, 0));
    due("null for an OBJECT", 0, 0, Write.single(-1, -1, 10, Write.EMPTY, 0, Write.RETURN, 0));
    due("null for a ROW", 0, 0, Write.single(-1, -1, 1, Write.EMPTY, 0, Write.RETURN, 0));
    due("a ROW for an OBJECT", 2, 2, Write.single(-1, -1, 10, Write.PUSH, 1, Write.ROW, 0, Write.RETURN, 0));
    for (int operation : new int[] {Write.CAST, Write.THROW, Write.ISNULL}) {
      due("an INT for " + operation, 2, 1,
          Write.ints(Write.PUSH, 0, operation, 0, Write.LOAD, 1, Write.RETURN, 0));
    }
    for (int operation : new int[] {Write.CAST, Write.THROW}) {
      due("a ROW for " + operation, 2, 1,
          Write.single(1, -1, 1, Write.LOAD, 1, operation, 0, Write.LOAD, 1, Write.RETURN, 0));
    }
    due("a ROW for ISNULL", 0, 0,
        Write.single(1, -1, 1, Write.LOAD, 1, Write.ISNULL, 0, Write.LOAD, 1, Write.RETURN, 0));
    due("null for ISNULL", 0, 0,
        Write.single(1, -1, 1, Write.EMPTY, 0, Write.ISNULL, 2, Write.EMPTY, 0, Write.RETURN, 0));
    due("null for CAST", 0, 0, Write.single(1, -1, 10, Write.EMPTY, 0, Write.CAST, 0, Write.RETURN, 0));
    due("null for THROW", 0, 0, Write.single(1, -1, 10, Write.EMPTY, 0, Write.THROW, 0));
    due("r of AT", 2, 2, Write.ints(Write.LOAD, 0, Write.PUSH, 0, Write.AT, 0, Write.RETURN, 0));
    due("i of AT", 2, 2, Write.single(1, -1, 0, Write.LOAD, 1, Write.LOAD, 1, Write.AT, 0, Write.RETURN, 0));
    due("null for AT", 0, 0, Write.ints(Write.EMPTY, 0, Write.PUSH, 0, Write.AT, 0, Write.RETURN, 0));
    due("SIZE", 2, 1, Write.ints(Write.LOAD, 0, Write.SIZE, 0, Write.RETURN, 0));
    for (int odd = 0; odd < 3; odd++) {
      due("TO, wrong at " + odd, 2, 3, Write.single(1, 0, 0, Write.LOAD, odd == 0 ? 0 : 1,
          Write.LOAD, odd == 1 ? 0 : 2, Write.LOAD, odd == 2 ? 0 : 2, Write.TO, 0, Write.LOAD, 2, Write.RETURN, 0));
    }
    due("r of SAME", 2, 2, Write.ints(Write.PUSH, 0, Write.LOAD, 0, Write.SAME, 0, Write.RETURN, 0));
    due("s of SAME", 2, 2, Write.ints(Write.LOAD, 0, Write.PUSH, 0, Write.SAME, 0, Write.RETURN, 0));
    due("SAME of OBJECT and null", 0, 0,
        Write.ints(Write.LOAD, 0, Write.EMPTY, 0, Write.SAME, 0, Write.RETURN, 0));
    typesOfClasses();
  }

  /** Class 1 below 0, and 2 beside it; METHOD 0 of class 0 takes an OBJECT of class 1 and a ROW. */
  private static JavaChain family(int... pairs) {
    JavaChain x = Write.single(11, 1, 10, pairs);
    x.field(0, 11);
    x.define(1, 0);
    x.define(2, 0);
    return x;
  }

  private static void typesOfClasses() {
    due("GET of a ROW", 2, 1, family(Write.LOAD, 2, Write.GET, 0, Write.RETURN, 0));
    due("GET by a class below", 2, 1, family(Write.LOAD, 0, Write.GET, 32, Write.RETURN, 0));
    due("GET by a class above", 0, 0, family(Write.LOAD, 1, Write.GET, 0, Write.RETURN, 0));
    due("SET of a class above", 2, 2,
        family(Write.LOAD, 0, Write.LOAD, 0, Write.SET, 0, Write.LOAD, 0, Write.RETURN, 0));
    due("SET of the class", 0, 0, family(Write.LOAD, 0, Write.LOAD, 1, Write.SET, 0, Write.LOAD, 0, Write.RETURN, 0));
    due("SET on a ROW", 2, 2, family(Write.LOAD, 2, Write.LOAD, 1, Write.SET, 0, Write.LOAD, 0, Write.RETURN, 0));
    due("CALL", 0, 0,
        family(Write.LOAD, 1, Write.EMPTY, 0, Write.LOAD, 2, Write.CALL, 4, Write.RETURN, 0));
    due("o of CALL", 2, 3,
        family(Write.LOAD, 0, Write.LOAD, 1, Write.LOAD, 2, Write.CALL, 4, Write.RETURN, 0));
    due("one of CALL", 2, 3,
        family(Write.LOAD, 0, Write.LOAD, 0, Write.LOAD, 2, Write.CALL, 0, Write.RETURN, 0));
    due("two of CALL", 2, 3,
        family(Write.LOAD, 0, Write.LOAD, 1, Write.LOAD, 1, Write.CALL, 0, Write.RETURN, 0));
    due("the RESULT of CALL", 2, 5, family(Write.LOAD, 0, Write.LOAD, 0, Write.EMPTY, 0, Write.LOAD, 2,
        Write.CALL, 0, Write.SET, 0, Write.LOAD, 0, Write.RETURN, 0));
    due("CAST down", 0, 0,
        family(Write.LOAD, 0, Write.LOAD, 0, Write.CAST, 1, Write.SET, 0, Write.LOAD, 0, Write.RETURN, 0));
    due("CAST beside", 2, 3,
        family(Write.LOAD, 0, Write.LOAD, 0, Write.CAST, 2, Write.SET, 0, Write.LOAD, 0, Write.RETURN, 0));
  }

  private static void meetings() {
    due("heights", 3, 2, Write.ints(Write.PUSH, 0, Write.PUSH, 0, Write.ZERO, 0, Write.RETURN, 0));
    due("an INT and null", 3, 4, Write.ints(Write.LOAD, 1, Write.ZERO, 4, Write.PUSH, 1, Write.GOTO, 5,
        Write.EMPTY, 0, Write.DROP, 0, Write.LOAD, 1, Write.RETURN, 0));
    due("LOCALS may be NONE", 0, 0, Write.ints(Write.LOAD, 1, Write.ZERO, 4, Write.PUSH, 1, Write.STORE, 3,
        Write.PUSH, 3, Write.RETURN, 0));
    due("a LOCAL that is NONE on one way", 2, 4, Write.ints(Write.LOAD, 1, Write.ZERO, 4, Write.PUSH, 1,
        Write.STORE, 3, Write.LOAD, 3, Write.RETURN, 0));
    JavaChain caught = Write.ints(Write.PUSH, 1, Write.RETURN, 0);
    caught.catcher(0, 0, Write.span(1, 2), 1, Write.ALL);
    due("a CATCHER's STACK", 3, 1, caught);
    JavaChain withObject = Write.ints(Write.PUSH, 1, Write.STORE, 3, Write.PUSH, 1, Write.RETURN, 0);
    withObject.catcher(0, 0, Write.span(0, 1), 1, 0);
    due("an OBJECT and an INT", 3, 0, withObject);
    joins();
  }

  /** LOADs one of two NEW OBJECTS by a way that is open; a GET by class asks for what they JOIN to. */
  private static JavaChain joined(int left, int right, int asked) {
    JavaChain x = new JavaChain();
    x.define(0, -1);
    x.field(0, 0);
    x.define(1, 0);
    x.define(2, 1);
    x.define(3, 1);
    x.define(4, 0);
    x.define(5, -1);
    x.field(5, 0);
    x.method(0, 0, Write.INT, Write.NONE, Write.INT);
    Write.code(x, 0, 0, Write.LOAD, 1, Write.ZERO, 4, Write.NEW, left, Write.GOTO, 5, Write.NEW, right,
        Write.GET, 32 * asked, Write.RETURN, 0);
    return x;
  }

  private static void joins() {
    due("the nearest above both", 0, 0, joined(2, 3, 1));
    due("one above both", 0, 0, joined(2, 3, 0));
    due("not as near", 2, 5, joined(2, 4, 1));
    due("farther", 0, 0, joined(2, 4, 0));
    due("above the other", 0, 0, joined(3, 1, 1));
    due("above the other, turned", 0, 0, joined(1, 3, 1));
    due("none above both", 3, 4, joined(2, 5, 0));
  }

  private static void orderOfFaults() {
    due("4 before 5", 4, 0, Write.ints(Write.LOAD, 9));
    due("5 before 1", 5, 0, Write.ints(Write.GET, 0, Write.RETURN, 0));
    due("5 of a CATCHER before 1", 5, 0, withKind(Write.ints(Write.RETURN, 0)));
    due("4 before 5 of a CATCHER", 4, 0, withKind(Write.ints(Write.GOTO, 7)));
    due("1 before 2", 1, 1, Write.ints(Write.EMPTY, 0, Write.ADD, 0, Write.RETURN, 0));
    due("2 before 3", 2, 2, Write.ints(Write.PUSH, 0, Write.EMPTY, 0, Write.ZERO, 0, Write.RETURN, 0));
    due("the least INSTRUCTION first", 2, 3, Write.ints(Write.LOAD, 1, Write.ZERO, 5, Write.EMPTY, 0,
        Write.RETURN, 0, Write.PUSH, 1, Write.RETURN, 0));
    due("a jump back is looked at before what is behind", 2, 2, Write.ints(Write.LOAD, 1, Write.GOTO, 4,
        Write.LOAD, 5, Write.RETURN, 0, Write.ZERO, 2, Write.RETURN, 0));
  }

  private static JavaChain withKind(JavaChain x) {
    x.catcher(0, 0, Write.span(0, 1), 0, 5);
    return x;
  }

  private static void orderOfMethods() {
    JavaChain x = new JavaChain();
    x.define(1, -1);
    x.define(0, -1);
    x.method(1, 2, Write.INT, Write.INT, Write.INT);
    x.method(1, 1, Write.INT, Write.INT, Write.INT);
    x.method(0, 3, Write.INT, Write.INT, Write.INT);
    due("class 0 first", 4, 300, x);
    Write.code(x, 0, 3, Write.PUSH, 1, Write.RETURN, 0);
    due("then SLOT 1 of class 1", 4, 1100, x);
    Write.code(x, 1, 1, Write.PUSH, 1, Write.RETURN, 0);
    due("then SLOT 2", 4, 1200, x);
    Write.code(x, 1, 2, Write.PUSH, 1, Write.RETURN, 0);
    due("then none", 0, 0, x);
  }

  private static void classesOfTypes() {
    due("of one", 5, 0, Write.single(11, -1, 0));
    due("of two", 5, 0, Write.single(0, 15, 0));
    due("of the RESULT", 5, 0, Write.single(-1, -1, 12, Write.EMPTY, 0, Write.RETURN, 0));
    JavaChain field = Write.ints(Write.PUSH, 1, Write.RETURN, 0);
    field.field(0, 0);
    field.field(0, 13);
    due("of a FIELD", 5, 0, field);
    field.define(3, -1);
    due("now it is there", 0, 0, field);
    JavaChain above = new JavaChain();
    above.define(0, -1);
    above.field(0, 14);
    above.define(1, 0);
    above.define(2, 1);
    above.method(2, 1, -1, -1, 0);
    Write.code(above, 2, 1, Write.PUSH, 1, Write.RETURN, 0);
    due("of a FIELD of the SUPER", 5, 2100, above);
    JavaChain zero = new JavaChain();
    zero.define(1, -1);
    zero.method(1, 0, 10, -1, 0);
    Write.code(zero, 1, 0, Write.PUSH, 1, Write.RETURN, 0);
    due("class 0 is not there", 5, 1000, zero);
    JavaChain bare = new JavaChain();
    bare.define(0, -1);
    bare.field(0, 14);
    due("of a class without a METHOD", 0, 0, bare);
  }

  /** "the TYPES of a METHOD's PARAMETERS and RESULT, of all FIELDS of the class, its SUPER's too" */
  private static void everyClassOfTypes() {
    for (int missing = 0; missing < 6; missing++) {
      for (int where = 0; where < 6; where++) {
        int k = missing == 1 ? 2 : 1;
        JavaChain x = withType(10 + missing, where, k);
        String what = "class " + missing + " at " + where;
        due(what, 5, 1000 * k + 200, x);
        Check.due(what + ": no MAP", -2, x.map(k, 2, 0, 0));
        x.define(missing, -1);
        due(what + ", now it is there", 0, 0, x);
        Check.due(what + ": a MAP", 10 + k, x.map(k, 2, 0, 0));
      }
    }
    JavaChain own = Write.single(10, 10, 10, "LOAD 1; RETURN");
    own.field(0, 10);
    due("its own class is there", 0, 0, own);
    JavaChain other = Write.ints("PUSH 1; RETURN");
    other.define(1, 0);
    other.field(1, 15);
    other.define(2, -1);
    other.field(2, 14);
    due("FIELDS of one below or beside, without METHODS", 0, 0, other);
  }

  /** The TYPE is that of one, of two, of the RESULT, or of the first, the last or a SUPER's FIELD. */
  private static JavaChain withType(int type, int where, int k) {
    JavaChain x = new JavaChain();
    boolean inherits = where == 5;
    if (inherits && type != 10) {
      x.define(0, -1);
      x.field(0, type);
      x.define(k, 0);
    } else {
      x.define(k, -1);
      x.field(k, where >= 3 && where != 4 ? type : 0);
      x.field(k, 1);
      x.field(k, where == 4 ? type : 0);
    }
    int result = where == 2 ? type : 0;
    x.method(k, 2, where == 0 ? type : 0, where == 1 ? type : 1, result);
    Write.code(x, k, 2, result == 0 ? "PUSH 1; RETURN" : "EMPTY; RETURN");
    return x;
  }

  /** "FAULT 5 at INSTRUCTION 0, before all else" of the METHOD; METHODS before it come first. */
  private static void beforeAllElse() {
    due("before 4", 5, 0, Write.single(11, -1, 0, ""));
    due("before 5 elsewhere", 5, 0, Write.single(11, -1, 0, "PUSH 1; LOAD 9; RETURN"));
    due("before 1", 5, 0, Write.single(11, -1, 0, "ADD; RETURN"));
    due("before 2", 5, 0, Write.single(11, -1, 0, "LOAD 5; RETURN"));
    JavaChain caught = Write.single(11, -1, 0, "PUSH 1; RETURN");
    caught.catcher(0, 0, Write.span(0, 2), 9, 3);
    due("before a CATCHER's", 5, 0, caught);
    JavaChain before = Write.ints("PUSH 1; ADD; RETURN");
    before.method(0, 1, 15, Write.NONE, Write.INT);
    due("not before a METHOD before it", 1, 1, before);
    JavaChain behind = Write.ints("PUSH 1; RETURN");
    behind.method(0, 2, Write.NONE, Write.NONE, 15);
    behind.method(0, 3, Write.NONE, Write.NONE, 14);
    behind.method(0, 1, Write.INT, Write.NONE, Write.INT);
    due("SLOT 1 has no INSTRUCTIONS", 4, 100, behind);
    Write.code(behind, 0, 1, "LOAD 1; RETURN");
    due("then SLOT 2", 5, 200, behind);
    behind.define(5, -1);
    due("which has no INSTRUCTIONS either", 4, 200, behind);
  }

  /** VERIFYING begins anew each time, whatever an earlier one found. */
  private static void onceMore() {
    JavaChain x = Write.ints();
    due("no INSTRUCTION", 4, 0, x);
    x.code(0, 0, Write.PUSH, 1);
    due("none behind", 4, 0, x);
    x.code(0, 0, Write.NEW, 4);
    due("none behind the next", 4, 1, x);
    x.code(0, 0, Write.ADD, 0);
    due("no class 4", 5, 1, x);
    x.define(4, -1);
    due("none behind ADD", 4, 2, x);
    x.code(0, 0, Write.RETURN, 0);
    due("an OBJECT for ADD", 2, 2, x);
    due("again", 2, 2, x);
    JavaChain fine = Write.ints("PUSH 1; RETURN; RETURN");
    due("fine", 0, 0, fine);
    Check.due("the same answer again", 1, fine.verify());
    Check.due("VERIFIED", 1, fine.run(0, 0, 0, 9, false));
    fine.catcher(0, 0, Write.span(1, 2), 2, Write.ALL);
    due("a CATCHER leads to a FAULT", 1, 2, fine);
    JavaChain waits = Write.ints("LOAD 1; ZERO 8; GOTO 5; DROP; GOTO 0; PUSH 7; LOAD 1; ZERO 3; PUSH 1; RETURN");
    due("INSTRUCTION 3 is new when the FAULT is found", 3, 7, waits);
    due("but it has no MAP when the next VERIFYING begins", 3, 7, waits);
    Check.thrown("nothing is VERIFIED", Check.SUPPORT, () -> fine.run(0, 0, 0, 9, false));
    Check.due("GUARDED it runs all the same", 1, fine.run(0, 0, 0, 9, true));
  }
}
