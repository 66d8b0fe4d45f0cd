/** Terms: FAULTS 4, 5, 1 and 2 of each operation, by VERIFYING and when GUARDED, and their order. */
public final class TermsFaultsTest {
  private static final int ANY = -10;
  private static final int OBJECTS = -11;
  private static final int REFERENCES = -12;
  private static final int[] VALUES = {0, 1, 2, 10, 11, 12, 13, 14, 15};
  // Operation, argument, what it puts, and the TYPES that it needs from below.
  private static final int[][] OPERATIONS = {
    {Write.PUSH, 9, 1},
    {Write.LOAD, 0, 1},
    {Write.STORE, 3, 0, ANY},
    {Write.ADD, 0, 1, 0, 0},
    {Write.SUB, 0, 1, 0, 0},
    {Write.MUL, 0, 1, 0, 0},
    {Write.DIV, 0, 1, 0, 0},
    {Write.ZERO, 0, 0, 0},
    {Write.LESS, 0, 0, 0, 0},
    {Write.EMPTY, 0, 1},
    {Write.NEW, 4, 1},
    {Write.GET, 32, 1, 11},
    {Write.GET, 34, 1, 11},
    {Write.SET, 32, 0, 11, 0},
    {Write.SET, 33, 0, 11, 1},
    {Write.SET, 34, 0, 11, 11},
    {Write.CALL, 5, 1, 11, 11, 1},
    {Write.CALL, 6, 1, 11, 0},
    {Write.CALL, 7, 1, 11},
    {Write.CAST, 1, 1, OBJECTS},
    {Write.ISNULL, 0, 0, REFERENCES},
    {Write.THROW, 0, 0, OBJECTS},
    {Write.RETURN, 0, 0, 0},
    {Write.ROW, 0, 1, 0},
    {Write.AT, 0, 1, 1, 0},
    {Write.TO, 0, 0, 1, 0, 0},
    {Write.SIZE, 0, 1, 1},
    {Write.DROP, 0, 0, ANY},
    {Write.TWICE, 0, 2, ANY},
    {Write.SAME, 0, 1, REFERENCES, REFERENCES},
  };

  public static void main(String[] args) {
    for (int[] operation : OPERATIONS) {
      tooLittle(operation);
      moreThanFive(operation);
      eachTypeAtEachPlace(operation);
    }
    heightOfGoto();
    placesBehind();
    placesOfJumps();
    placesOfTargets();
    locals();
    classes();
    fields();
    methods();
    classesOfCatchers();
    loadOfNone();
    orderOfFaults();
    Check.end();
  }

  /** Class 0 has FIELDS INT, ROW and OBJECT of class 1, and its METHODS 1 .. 3 two, one and no PARAMETERS. */
  private static JavaChain world(String program) {
    JavaChain x = Write.single(Write.NONE, Write.NONE, Write.INT, program);
    x.field(0, Write.INT);
    x.field(0, Write.ROWS);
    x.field(0, 11);
    x.method(0, 1, 11, Write.ROWS, Write.INT);
    Write.code(x, 0, 1, "PUSH 1; RETURN");
    x.method(0, 2, Write.INT, Write.NONE, Write.INT);
    Write.code(x, 0, 2, "PUSH 1; RETURN");
    Write.method(x, 0, 3, "PUSH 1; RETURN");
    Write.belowZero(x);
    return x;
  }

  /** By VERIFYING, and when GUARDED, where it is not done and takes nothing. */
  private static void faulty(String what, int why, int where, JavaChain x) {
    Check.fault(what, why, where, x);
    Check.thrown(what + ", GUARDED", Check.STATE, () -> x.run(0, 0, 0, 400, true));
    Check.due(what + ": a FAULT", 8, x.outcome(0));
    Check.due(what + ": its number", why, x.outcome(1));
    Check.due(what + ": INSTRUCTIONS done", where, x.outcome(2));
  }

  private static void fine(String what, JavaChain x) {
    Check.faultless(what, x);
    try {
      x.run(0, 0, 0, 400, true);
    } catch (IllegalStateException e) {
      Check.due(what + ": no FAULT when GUARDED", 1, x.outcome(0) == 8 ? 8 : 1);
    }
  }

  private static String name(int[] operation) {
    return Write.name(operation[0]) + " " + operation[1];
  }

  private static int takes(int[] operation) {
    return operation.length - 3;
  }

  private static boolean jumps(int operation) {
    return operation == Write.GOTO || operation == Write.ZERO || operation == Write.LESS || operation == Write.ISNULL;
  }

  private static boolean goesOn(int operation) {
    return operation != Write.GOTO && operation != Write.THROW && operation != Write.RETURN;
  }

  /** The values, the operation, and room so that one of what it leaves can be dropped and an int answered. */
  private static JavaChain after(String values, int[] operation) {
    int at = Write.length(values);
    int x = jumps(operation[0]) ? at + 1 : operation[1];
    String before = values.isEmpty() ? "" : values + "; ";
    return world(before + Write.name(operation[0]) + " " + x + "; STORE 0; PUSH 1; RETURN");
  }

  private static int fitting(int need) {
    return need == ANY ? Write.INT : need == OBJECTS ? 10 : need == REFERENCES ? Write.ROWS : need;
  }

  private static boolean fits(int value, int need) {
    switch (need) {
      case ANY:
        return true;
      case OBJECTS:
        return value == Write.NULL || value >= Write.OBJECT;
      case REFERENCES:
        return value != Write.INT;
      case 11:
        return value == Write.NULL || value == 11 || value == 12 || value == 13;
      case Write.ROWS:
        return value == Write.ROWS || value == Write.NULL;
      default:
        return value == Write.INT;
    }
  }

  private static String join(String program, String more) {
    return program.isEmpty() ? more : program + "; " + more;
  }

  /** Bottom INTS, then a fitting value for each that is needed but for one place, which gets odd. */
  private static String operands(int[] operation, int bottom, int place, int odd) {
    String program = "";
    for (int i = 0; i < bottom; i++) {
      program = join(program, "PUSH 1");
    }
    for (int i = 0; i < takes(operation); i++) {
      program = join(program, Write.value(i == place ? odd : fitting(operation[3 + i])));
    }
    return program;
  }

  /** "1 the STACK has too little" */
  private static void tooLittle(int[] operation) {
    String values = "";
    for (int count = 0; count < takes(operation); count++) {
      faulty(name(operation) + " with " + count, 1, Write.length(values), after(values, operation));
      values = join(values, Write.value(fitting(operation[3 + count])));
    }
  }

  /** "or would have more than 5" */
  private static void moreThanFive(int[] operation) {
    for (int height = takes(operation); height <= 5; height++) {
      String values = operands(operation, height - takes(operation), -1, 0);
      int left = height - takes(operation) + operation[2];
      String what = name(operation) + " at height " + height;
      JavaChain x = after(values, operation);
      if (left > 5) {
        faulty(what, 1, Write.length(values), x);
      } else if (!goesOn(operation[0])) {
        fine(what, x);
      } else if (left == 0) {
        Check.fault(what + ", nothing is left", 1, Write.length(values) + 1, x);
      } else {
        fine(what, x);
        Check.due(what + ": what is left", left, x.map(0, 0, Write.length(values) + 1, 6));
      }
    }
  }

  /** "2 something taken is of no PART of what is needed" */
  private static void eachTypeAtEachPlace(int[] operation) {
    boolean leavesNone = goesOn(operation[0]) && operation[2] == 0;
    for (int place = 0; place < takes(operation); place++) {
      for (int value : VALUES) {
        String values = operands(operation, leavesNone ? 1 : 0, place, value);
        String what = name(operation) + " with TYPE " + value + " at place " + place;
        if (fits(value, operation[3 + place])) {
          fine(what, after(values, operation));
        } else {
          faulty(what, 2, Write.length(values), after(values, operation));
        }
      }
    }
  }

  private static void heightOfGoto() {
    String five = "PUSH 1; PUSH 1; PUSH 1; PUSH 1; PUSH 1; ";
    fine("GOTO with nothing", world("GOTO 1; PUSH 1; RETURN"));
    fine("GOTO with five", world(five + "GOTO 6; RETURN"));
  }

  /** "4 it .. or one that can be next is not there" */
  private static void placesBehind() {
    faulty("METHOD without INSTRUCTIONS", 4, 0, world(""));
    for (int[] operation : OPERATIONS) {
      String values = operands(operation, 0, -1, 0);
      int at = Write.length(values);
      JavaChain x = world(join(values, Write.name(operation[0]) + " " + (jumps(operation[0]) ? at : operation[1])));
      if (goesOn(operation[0])) {
        faulty("none behind " + name(operation), 4, at, x);
      } else {
        fine("none is needed behind " + name(operation), x);
      }
    }
    fine("none is needed behind GOTO", world("PUSH 1; GOTO 3; GOTO 4; GOTO 2; RETURN"));
    JavaChain full = world("");
    for (int i = 0; i < 23; i++) {
      full.code(0, 0, i % 2 == 0 ? Write.PUSH : Write.DROP, 1);
    }
    full.code(0, 0, Write.RETURN, 0);
    fine("24 INSTRUCTIONS", full);
    JavaChain over = world("");
    for (int i = 0; i < 24; i++) {
      over.code(0, 0, i % 2 == 0 ? Write.PUSH : Write.DROP, 1);
    }
    faulty("24 INSTRUCTIONS and none behind", 4, 23, over);
  }

  /** A jump leads to an INSTRUCTION from 0 to the last; else FAULT 4, done or not. */
  private static void placesOfJumps() {
    String[] before = {"", "PUSH 1; ", "PUSH 2; PUSH 1; ", "NEW 0; "};
    String[] jump = {"GOTO ", "ZERO ", "LESS ", "ISNULL "};
    for (int i = 0; i < jump.length; i++) {
      int at = Write.length(before[i] + jump[i] + "0") - 1;
      String behind = "; PUSH 1; RETURN";
      for (int x : new int[] {Integer.MIN_VALUE, -1, at + 3, 24, Integer.MAX_VALUE}) {
        faulty(jump[i] + x, 4, at, world(before[i] + jump[i] + x + behind));
      }
      fine(jump[i] + "to 0", world(before[i] + jump[i] + "0" + behind));
      fine(jump[i] + "to the one behind", world(before[i] + jump[i] + (at + 1) + behind));
      String last = "; PUSH 1; RETURN; GOTO " + (at + 1);
      fine(jump[i] + "to the last", world(before[i] + jump[i] + (at + 3) + last));
    }
  }

  private static JavaChain caught(String program, int from, int to, int target, int kind) {
    JavaChain x = world(program);
    x.catcher(0, 0, Write.span(from, to), target, kind);
    return x;
  }

  /** "4 .. the TARGET of a CATCHER around it": FROM .. TO - 1 are in it. */
  private static void placesOfTargets() {
    String program = "PUSH 1; PUSH 2; DROP; RETURN; PUSH 3; RETURN";
    faulty("TARGET behind the last", 4, 1, caught(program, 1, 2, 6, Write.ALL));
    faulty("TARGET 23", 4, 3, caught(program, 3, 31, 23, Write.ALL));
    fine("TARGET is the last but one", caught(program, 1, 2, 4, Write.ALL));
    fine("around none: FROM is TO", caught(program, 1, 1, 6, Write.ALL));
    fine("around none: FROM is behind TO", caught(program, 2, 1, 6, Write.ALL));
    fine("around none that is reached", caught(program, 4, 31, 6, Write.ALL));
    fine("around none that is there", caught(program, 31, 31, 23, 5));
    for (int from = 0; from < 5; from++) {
      for (int to = 0; to < 5; to++) {
        JavaChain x = caught(program, from, to, 23, Write.ALL);
        if (from < to && from < 4) {
          faulty("FROM " + from + " TO " + to, 4, from, x);
        } else {
          fine("FROM " + from + " TO " + to, x);
        }
      }
    }
    JavaChain second = caught(program, 0, 0, 0, Write.ALL);
    second.catcher(0, 0, Write.span(2, 3), 6, Write.ALL);
    faulty("TARGET of the second", 4, 2, second);
  }

  /** "5 there is no LOCAL .. x" */
  private static void locals() {
    for (int x : new int[] {Integer.MIN_VALUE, -1, 6, 7, Integer.MAX_VALUE}) {
      faulty("LOAD " + x, 5, 1, world("PUSH 1; LOAD " + x + "; RETURN"));
      faulty("STORE " + x, 5, 1, world("PUSH 1; STORE " + x + "; PUSH 1; RETURN"));
    }
    for (int x = 0; x < 6; x++) {
      fine("STORE and LOAD " + x, world("PUSH 1; STORE " + x + "; LOAD " + x + "; RETURN"));
    }
  }

  /** Of the classes only 0, 2 and 5 are there. */
  private static JavaChain some(String program) {
    JavaChain x = Write.ints(program);
    x.define(2, 0);
    x.define(5, 2);
    x.field(5, Write.INT);
    x.method(5, 3, Write.NONE, Write.NONE, Write.INT);
    Write.code(x, 5, 3, "PUSH 1; RETURN");
    return x;
  }

  /** "5 there is no .. class .. x" */
  private static void classes() {
    for (int x : new int[] {Integer.MIN_VALUE, -1, 1, 3, 4, 6, Integer.MAX_VALUE}) {
      faulty("NEW " + x, 5, 0, some("NEW " + x + "; DROP; PUSH 1; RETURN"));
      faulty("CAST " + x, 5, 1, some("NEW 0; CAST " + x + "; DROP; PUSH 1; RETURN"));
    }
    for (int x : new int[] {0, 2, 5}) {
      fine("NEW and CAST " + x, some("NEW 5; CAST " + x + "; NEW " + x + "; DROP; DROP; PUSH 1; RETURN"));
    }
  }

  /** "5 there is no .. FIELD .. x": FIELD x % 32 of class x / 32. */
  private static void fields() {
    int[] none = {Integer.MIN_VALUE, -160, -32, -1, 0, 31, 32, 64, 159, 161, 191, 192, Integer.MAX_VALUE};
    for (int x : none) {
      faulty("GET " + x, 5, 1, some("NEW 5; GET " + x + "; RETURN"));
      faulty("SET " + x, 5, 2, some("NEW 5; PUSH 1; SET " + x + "; PUSH 1; RETURN"));
    }
    for (int x = -31; x < 0; x++) {
      faulty("GET " + x + " of three FIELDS", 5, 1, world("LOAD 0; GET " + x + "; RETURN"));
      faulty("SET " + x + " of three FIELDS", 5, 2, world("LOAD 0; PUSH 1; SET " + x + "; PUSH 1; RETURN"));
    }
    fine("GET 160", some("NEW 5; GET 160; RETURN"));
    fine("SET 160", some("NEW 5; PUSH 1; SET 160; PUSH 1; RETURN"));
  }

  /** "5 there is no .. METHOD x": of class x / 4 for SLOT x % 4. */
  private static void methods() {
    for (int x : new int[] {Integer.MIN_VALUE, -20, -4, -1, 1, 3, 4, 11, 19, 21, 22, 24, 27, Integer.MAX_VALUE}) {
      faulty("CALL " + x, 5, 1, some("NEW 5; CALL " + x + "; RETURN"));
    }
    for (int x = -3; x < 0; x++) {
      faulty("CALL " + x + " of four METHODS", 5, 1, world("LOAD 0; CALL " + x + "; RETURN"));
    }
    fine("CALL 23", some("NEW 5; CALL 23; RETURN"));
    fine("CALL 20, from above", some("NEW 5; LOAD 1; LOAD 2; CALL 20; RETURN"));
  }

  /** "5 .. no class of a CATCHER around it" */
  private static void classesOfCatchers() {
    for (int kind : new int[] {1, 3, 4}) {
      JavaChain x = some("PUSH 1; PUSH 2; DROP; RETURN; DROP; PUSH 1; RETURN");
      x.catcher(0, 0, Write.span(1, 3), 4, kind);
      faulty("class " + kind, 5, 1, x);
    }
    for (int kind : new int[] {0, 2, 5}) {
      JavaChain x = some("PUSH 1; PUSH 2; DROP; RETURN; DROP; PUSH 1; RETURN");
      x.catcher(0, 0, Write.span(1, 3), 4, kind);
      fine("class " + kind, x);
    }
    JavaChain second = some("PUSH 1; PUSH 2; DROP; RETURN; DROP; PUSH 1; RETURN");
    second.catcher(0, 0, Write.span(1, 3), 4, 5);
    second.catcher(0, 0, Write.span(2, 3), 4, 4);
    faulty("class of the second", 5, 2, second);
    JavaChain aside = some("PUSH 1; RETURN");
    aside.catcher(0, 0, Write.span(2, 31), 0, 4);
    fine("a CATCHER that is around none", aside);
  }

  /** "2 LOCAL x is NONE for 1" */
  private static void loadOfNone() {
    for (int parameters = 0; parameters < 3; parameters++) {
      for (int local = 0; local < 6; local++) {
        int one = parameters > 0 ? Write.ROWS : Write.NONE;
        int two = parameters > 1 ? Write.ROWS : Write.NONE;
        JavaChain x = Write.single(one, two, Write.INT, "LOAD " + local + "; DROP; PUSH 1; RETURN");
        String what = "LOAD " + local + " with " + parameters + " PARAMETERS";
        if (local > parameters) {
          faulty(what, 2, 0, x);
        } else {
          fine(what, x);
        }
      }
    }
  }

  /** "the first of: 4 .. 5 .. 1 .. 2 .. 3": an INSTRUCTION with two FAULTS tells the first. */
  private static void orderOfFaults() {
    faulty("4 before 5, by the one behind", 4, 0, world("NEW 9"));
    faulty("4 before 5, by a TARGET", 4, 0, caught("LOAD 6; RETURN", 0, 1, 2, Write.ALL));
    faulty("4 before 5, by the same CATCHER", 4, 1, absentKind("PUSH 1; RETURN", 2));
    faulty("4 before 1", 4, 0, world("ADD"));
    faulty("4 before 1, by a jump", 4, 0, world("ZERO 3; PUSH 1; RETURN"));
    faulty("4 before 2", 4, 1, world("EMPTY; SIZE"));
    faulty("4 before 2, by a jump", 4, 1, world("EMPTY; ZERO 4; PUSH 1; RETURN"));
    Check.fault("4 before 3", 4, 1, world("PUSH 1; PUSH 1"));
    faulty("5 before 1", 5, 0, world("GET 3; RETURN"));
    faulty("5 before 1, too much", 5, 5, world("PUSH 1; PUSH 1; PUSH 1; PUSH 1; PUSH 1; NEW 6; RETURN"));
    faulty("5 before 2", 5, 1, world("PUSH 1; CAST 6; RETURN"));
    faulty("5 before 1, by a CATCHER", 5, 0, absentKind("RETURN; RETURN", 1));
    faulty("5 before 2, by a CATCHER", 5, 1, absentKind("EMPTY; RETURN; RETURN", 2));
    Check.fault("5 before 3, by a CATCHER", 5, 1, absentKind("PUSH 1; RETURN", 1));
    faulty("1 before 2, too little", 1, 1, world("EMPTY; ADD; RETURN"));
    faulty("1 before 2, too much", 1, 5, world("PUSH 1; PUSH 1; PUSH 1; PUSH 1; PUSH 1; LOAD 5; RETURN"));
    Check.fault("1 before 3", 1, 1, caught("PUSH 1; ADD; RETURN", 1, 2, 1, Write.ALL));
    Check.fault("2 before 3", 2, 1, caught("EMPTY; RETURN", 1, 2, 1, Write.ALL));
    Check.fault("3 without the others", 3, 1, caught("PUSH 1; RETURN", 1, 2, 1, Write.ALL));
  }

  /** A CATCHER around all, of class 3, which is not there. */
  private static JavaChain absentKind(String program, int target) {
    JavaChain x = Write.single(Write.NONE, Write.NONE, Write.INT, program);
    x.catcher(0, 0, Write.span(program.startsWith("RETURN") ? 0 : 1, 31), target, 3);
    return x;
  }
}
