/** Terms: PART and JOIN of TYPES, for every pair in the family of classes. */
public final class TermsTypesTest {
  private static final int[] VALUES = {0, 1, 2, 10, 11, 12, 13, 14, 15};
  private static final int[] DECLARED = {0, 1, 10, 11, 12, 13, 14, 15};
  // By VALUES and DECLARED: classes 1 and 4 are below 0, 2 and 3 below 1.
  private static final String[] PART = {
    "1.......", ".1......", ".1111111", "..1.....", "..11....", "..111...", "..11.1..", "..1...1.", ".......1"
  };
  private static final int[] LOCALS = {-1, 0, 1, 2, 10, 11, 12, 13, 14, 15};
  private static final int[][] JOIN = {
    {-1, -1, -1, -1, -1, -1, -1, -1, -1, -1},
    {-1, 0, -1, -1, -1, -1, -1, -1, -1, -1},
    {-1, -1, 1, 1, -1, -1, -1, -1, -1, -1},
    {-1, -1, 1, 2, 10, 11, 12, 13, 14, 15},
    {-1, -1, -1, 10, 10, 10, 10, 10, 10, -1},
    {-1, -1, -1, 11, 10, 11, 11, 11, 10, -1},
    {-1, -1, -1, 12, 10, 11, 12, 11, 10, -1},
    {-1, -1, -1, 13, 10, 11, 11, 13, 10, -1},
    {-1, -1, -1, 14, 10, 10, 10, 10, 14, -1},
    {-1, -1, -1, 15, -1, -1, -1, -1, -1, 15},
  };

  public static void main(String[] args) {
    parts();
    joinsOfLocals();
    joinsOfStacks();
    farApart();
    classesThatAreNotThere();
    Check.end();
  }

  private static void parts() {
    for (int v = 0; v < VALUES.length; v++) {
      for (int d = 0; d < DECLARED.length; d++) {
        String program = Write.value(VALUES[v]) + "; RETURN";
        JavaChain x = Write.single(Write.NONE, Write.NONE, DECLARED[d], program);
        Write.belowZero(x);
        String what = VALUES[v] + " for " + DECLARED[d];
        if (PART[v].charAt(d) == '1') {
          Check.faultless(what, x);
          x.run(0, 0, 0, 99, true);
          Check.due(what + ", GUARDED", 0, x.outcome(0));
        } else {
          int last = Write.length(program) - 1;
          Check.fault(what, 2, last, x);
          Check.thrown(what + ", GUARDED", Check.STATE, () -> x.run(0, 0, 0, 99, true));
          Check.due(what + ", a FAULT", 8, x.outcome(0));
          Check.due(what + ", its number", 2, x.outcome(1));
        }
      }
    }
  }

  /** INSTRUCTIONS that leave a value of this TYPE in LOCAL 3; for NONE they do nothing. */
  private static String stored(int type) {
    return type == Write.NONE ? "GOTO " : Write.value(type) + "; STORE 3; GOTO ";
  }

  private static void joinsOfLocals() {
    for (int i = 0; i < LOCALS.length; i++) {
      for (int j = 0; j < LOCALS.length; j++) {
        int other = 2 + Write.length(stored(LOCALS[i]) + "0");
        int meeting = other + Write.length(stored(LOCALS[j]) + "0");
        JavaChain x = Write.ints("LOAD 1; ZERO " + other + "; " + stored(LOCALS[i]) + meeting + "; "
            + stored(LOCALS[j]) + meeting + "; PUSH 0; RETURN");
        Write.belowZero(x);
        String what = "JOIN of " + LOCALS[i] + " and " + LOCALS[j];
        Check.faultless(what, x);
        Check.due(what, JOIN[i][j], x.map(0, 0, meeting, 3));
        Check.due(what + ", behind", JOIN[i][j], x.map(0, 0, meeting + 1, 3));
      }
    }
  }

  private static void joinsOfStacks() {
    for (int i = 1; i < LOCALS.length; i++) {
      for (int j = 1; j < LOCALS.length; j++) {
        int other = 3 + Write.length(Write.value(LOCALS[i]));
        int meeting = other + Write.length(Write.value(LOCALS[j]));
        JavaChain x = Write.ints("LOAD 1; ZERO " + other + "; " + Write.value(LOCALS[i]) + "; GOTO " + meeting + "; "
            + Write.value(LOCALS[j]) + "; DROP; PUSH 0; RETURN");
        Write.belowZero(x);
        String what = "STACKS of " + LOCALS[i] + " and " + LOCALS[j];
        if (JOIN[i][j] == Write.NONE) {
          Check.fault(what, 3, meeting - 1, x);
          Check.due(what + ": the MAP stays", LOCALS[i], x.map(0, 0, meeting, 7));
        } else {
          Check.faultless(what, x);
          Check.due(what, JOIN[i][j], x.map(0, 0, meeting, 7));
        }
      }
    }
  }

  /** "the class of the other one is above its by SUPERS", "the nearest class above both". */
  private static void farApart() {
    JavaChain x = Write.chain();
    x.method(0, 0, Write.NONE, Write.NONE, 10);
    Write.code(x, 0, 0, "NEW 5; RETURN");
    Check.faultless("five SUPERS up", x);
    JavaChain y = new JavaChain();
    y.define(0, -1);
    y.define(1, 0);
    y.define(2, 1);
    y.define(3, 2);
    y.define(4, 0);
    y.define(5, 4);
    Write.method(y, 0, 0, "NEW 3; STORE 3; PUSH 0; ZERO 6; NEW 5; STORE 3; PUSH 0; RETURN");
    Check.faultless("3 below 2, 1, 0 and 5 below 4, 0", y);
    Check.due("only 0 is above both", 10, y.map(0, 0, 6, 3));
  }

  /** A class that is not there is below and above none; NULL is a PART of its TYPE all the same. */
  private static void classesThatAreNotThere() {
    JavaChain x = new JavaChain();
    x.define(0, -1);
    x.define(1, -1);
    x.field(1, 14);
    Write.method(x, 0, 0, "NEW 1; EMPTY; SET 32; NEW 1; GET 32; STORE 3; PUSH 0; ZERO 10; NEW 0; STORE 3; PUSH 0"
        + "; RETURN");
    Check.faultless("a FIELD of a class without METHODS", x);
    Check.due("its TYPE", 14, x.map(0, 0, 6, 3));
    Check.due("JOIN with another one", -1, x.map(0, 0, 10, 3));
  }
}
