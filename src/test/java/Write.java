/** Operations by name, and short ways to write programs. */
final class Write {
  static final int NONE = -1;
  static final int INT = 0;
  static final int ROWS = 1;
  static final int NULL = 2;
  static final int OBJECT = 10;
  static final int ALL = 6;

  static final int PUSH = 0;
  static final int LOAD = 1;
  static final int STORE = 2;
  static final int ADD = 3;
  static final int SUB = 4;
  static final int MUL = 5;
  static final int DIV = 6;
  static final int GOTO = 7;
  static final int ZERO = 8;
  static final int LESS = 9;
  static final int EMPTY = 10;
  static final int NEW = 11;
  static final int GET = 12;
  static final int SET = 13;
  static final int CALL = 14;
  static final int CAST = 15;
  static final int ISNULL = 16;
  static final int THROW = 17;
  static final int RETURN = 18;
  static final int ROW = 19;
  static final int AT = 20;
  static final int TO = 21;
  static final int SIZE = 22;
  static final int DROP = 23;
  static final int TWICE = 24;
  static final int SAME = 25;

  private Write() {}

  static int span(int from, int to) {
    return 32 * from + to;
  }

  /** Puts INSTRUCTIONS: operation, argument, operation, argument, .. */
  static void code(JavaChain x, int k, int slot, int... pairs) {
    for (int i = 0; i < pairs.length; i += 2) {
      x.code(k, slot, pairs[i], pairs[i + 1]);
    }
  }

  /** One class 0 whose METHOD 0 takes two ints and answers one. */
  static JavaChain ints(int... pairs) {
    return single(INT, INT, INT, pairs);
  }

  /** One class 0 whose METHOD 0 has the given PARAMETERS and RESULT. */
  static JavaChain single(int one, int two, int result, int... pairs) {
    JavaChain x = new JavaChain();
    x.define(0, -1);
    x.method(0, 0, one, two, result);
    code(x, 0, 0, pairs);
    return x;
  }
}
