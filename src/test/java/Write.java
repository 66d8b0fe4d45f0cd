import java.util.List;

/** Operations by name, and short ways to write programs. */
final class Write {
  static final int NONE = -1;
  static final int INT = 0;
  static final int ROWS = 1;
  static final int NULL = 2;
  static final int OBJECT = 10;
  static final int ALL = 6;

  static final int PUSH = 0;
  static final int LOAD = 1;
  static final int STORE = 2;
  static final int ADD = 3;
  static final int SUB = 4;
  static final int MUL = 5;
  static final int DIV = 6;
  static final int GOTO = 7;
  static final int ZERO = 8;
  static final int LESS = 9;
  static final int EMPTY = 10;
  static final int NEW = 11;
  static final int GET = 12;
  static final int SET = 13;
  static final int CALL = 14;
  static final int CAST = 15;
  static final int ISNULL = 16;
  static final int THROW = 17;
  static final int RETURN = 18;
  static final int ROW = 19;
  static final int AT = 20;
  static final int TO = 21;
  static final int SIZE = 22;
  static final int DROP = 23;
  static final int TWICE = 24;
  static final int SAME = 25;

  private static final List<String> NAMES = List.of("PUSH", "LOAD", "STORE", "ADD", "SUB", "MUL", "DIV", "GOTO",
      "ZERO", "LESS", "EMPTY", "NEW", "GET", "SET", "CALL", "CAST", "ISNULL", "THROW", "RETURN", "ROW", "AT", "TO",
      "SIZE", "DROP", "TWICE", "SAME");

  private Write() {}

  static String name(int operation) {
    return NAMES.get(operation);
  }

  /** "LOAD 1; RETURN" as pairs of operation and argument; without an argument it is 0. */
  static int[] pairs(String program) {
    String[] lines = program.isEmpty() ? new String[0] : program.split("; ");
    int[] pairs = new int[2 * lines.length];
    for (int i = 0; i < lines.length; i++) {
      String[] words = lines[i].split(" ");
      pairs[2 * i] = NAMES.indexOf(words[0]);
      pairs[2 * i + 1] = words.length == 1 ? 0 : Integer.parseInt(words[1]);
    }
    return pairs;
  }

  /** INSTRUCTIONS that put a value of this TYPE on the STACK. */
  static String value(int type) {
    switch (type) {
      case INT:
        return "PUSH 1";
      case ROWS:
        return "PUSH 1; ROW";
      case NULL:
        return "EMPTY";
      default:
        return "NEW " + (type - OBJECT);
    }
  }

  static int length(String program) {
    return pairs(program).length / 2;
  }

  static int span(int from, int to) {
    return 32 * from + to;
  }

  /** Puts INSTRUCTIONS: operation, argument, operation, argument, .. */
  static void code(JavaChain x, int k, int slot, int... pairs) {
    for (int i = 0; i < pairs.length; i += 2) {
      x.code(k, slot, pairs[i], pairs[i + 1]);
    }
  }

  static void code(JavaChain x, int k, int slot, String program) {
    code(x, k, slot, pairs(program));
  }

  static JavaChain ints(String program) {
    return ints(pairs(program));
  }

  static JavaChain single(int one, int two, int result, String program) {
    return single(one, two, result, pairs(program));
  }

  /** A METHOD without PARAMETERS that answers an int. */
  static void method(JavaChain x, int k, int slot, String program) {
    x.method(k, slot, NONE, NONE, INT);
    code(x, k, slot, program);
  }

  /** Classes 1 and 4 below 0, 2 and 3 below 1, and 5 alone. */
  static JavaChain family() {
    JavaChain x = new JavaChain();
    x.define(0, -1);
    belowZero(x);
    return x;
  }

  /** The others of the family, for an object whose class 0 is there. */
  static void belowZero(JavaChain x) {
    x.define(1, 0);
    x.define(2, 1);
    x.define(3, 1);
    x.define(4, 0);
    x.define(5, -1);
  }

  /** Six classes, each below the one before. */
  static JavaChain chain() {
    JavaChain x = new JavaChain();
    for (int k = 0; k < 6; k++) {
      x.define(k, k - 1);
    }
    return x;
  }

  /** A chain with three FIELDS that are INT in each class, 18 in the last. */
  static JavaChain eighteen() {
    JavaChain x = new JavaChain();
    for (int k = 0; k < 6; k++) {
      x.define(k, k - 1);
      x.field(k, INT);
      x.field(k, INT);
      x.field(k, INT);
    }
    return x;
  }

  /** One class 0 whose METHOD 0 takes two ints and answers one. */
  static JavaChain ints(int... pairs) {
    return single(INT, INT, INT, pairs);
  }

  /** One class 0 whose METHOD 0 has the given PARAMETERS and RESULT. */
  static JavaChain single(int one, int two, int result, int... pairs) {
    JavaChain x = new JavaChain();
    x.define(0, -1);
    x.method(0, 0, one, two, result);
    code(x, 0, 0, pairs);
    return x;
  }
}
