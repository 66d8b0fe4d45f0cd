/** Terms: what each INSTRUCTION does at its edges, GUARDED and not. */
public final class TermsInstructionsTest {
  private static final int MIN = Integer.MIN_VALUE;
  private static final int MAX = Integer.MAX_VALUE;
  private static final int ARITHMETIC = 1;
  private static final int MISSING = 2;
  private static final int BOUNDS = 3;
  private static final int CASTING = 4;

  public static void main(String[] args) {
    lastNamedFirst();
    wrapping();
    cutTowardZero();
    jumps();
    newFieldsAreZeroOrNull();
    fieldsByNumber();
    callsByOwnClass();
    casts();
    throwsObjects();
    rowsOfNoneToEight();
    rowsAreZeroAgain();
    nothingBesideIsChanged();
    edgesOfRows();
    same();
    nullIsMissing();
    missingBeforeBounds();
    Check.end();
  }

  private static JavaChain world(String program) {
    JavaChain x = Write.ints(program);
    x.field(0, Write.INT);
    x.field(0, Write.ROWS);
    x.field(0, 10);
    Write.belowZero(x);
    return x;
  }

  private static void gives(String program, int want, int a, int b) {
    JavaChain x = world(program);
    Check.due(program + ", GUARDED", want, x.run(0, a, b, 400, true));
    Check.faultless(program, x);
    Check.due(program, want, x.run(0, a, b, 400, false));
  }

  private static void signals(String program, int signal, int done, int a, int b) {
    JavaChain x = world(program);
    Check.faultless(program, x);
    for (boolean guarded : new boolean[] {true, false}) {
      Check.thrown(program, Check.STATE, () -> x.run(0, a, b, 400, guarded));
      Check.due(program + ": SIGNAL", signal, x.outcome(0));
      Check.due(program + ": nothing more to tell", 0, x.outcome(1));
      Check.due(program + ": done", done, x.outcome(2));
    }
  }

  /** "they take from the top of the STACK, the last named first" */
  private static void lastNamedFirst() {
    gives("LOAD 1; LOAD 2; SUB; RETURN", 5, 7, 2);
    gives("LOAD 1; LOAD 2; DIV; RETURN", 3, 7, 2);
    gives("LOAD 1; LOAD 2; LESS 5; PUSH 0; RETURN; PUSH 1; RETURN", 1, 2, 7);
    gives("LOAD 0; LOAD 1; SET 0; LOAD 0; GET 0; RETURN", 7, 7, 2);
    gives("PUSH 3; ROW; TWICE; LOAD 1; LOAD 2; TO; PUSH 1; AT; RETURN", 9, 1, 9);
    gives("LOAD 1; LOAD 2; STORE 3; RETURN", 7, 7, 2);
    gives("LOAD 1; LOAD 2; DROP; RETURN", 7, 7, 2);
    gives("LOAD 1; LOAD 2; TWICE; MUL; SUB; RETURN", 3, 7, 2);
    gives("LOAD 1; LOAD 2; RETURN", 2, 7, 2);
  }

  private static void wrapping() {
    gives("LOAD 1; LOAD 2; ADD; RETURN", MIN, MAX, 1);
    gives("LOAD 1; LOAD 2; ADD; RETURN", -2, MAX, MAX);
    gives("LOAD 1; LOAD 2; ADD; RETURN", 0, MIN, MIN);
    gives("LOAD 1; LOAD 2; SUB; RETURN", MAX, MIN, 1);
    gives("LOAD 1; LOAD 2; SUB; RETURN", MIN, 0, MIN);
    gives("LOAD 1; LOAD 2; MUL; RETURN", 1, MAX, MAX);
    gives("LOAD 1; LOAD 2; MUL; RETURN", MIN, MIN, -1);
    gives("LOAD 1; LOAD 2; MUL; RETURN", -1794967296, 50000, 50000);
    gives("LOAD 1; LOAD 2; DIV; RETURN", MIN, MIN, -1);
    gives("PUSH -2147483648; RETURN", MIN, 0, 0);
    gives("PUSH 2147483647; RETURN", MAX, 0, 0);
  }

  /** "cut toward 0; q 0: ARITHMETIC" */
  private static void cutTowardZero() {
    gives("LOAD 1; LOAD 2; DIV; RETURN", 3, 7, 2);
    gives("LOAD 1; LOAD 2; DIV; RETURN", -3, -7, 2);
    gives("LOAD 1; LOAD 2; DIV; RETURN", -3, 7, -2);
    gives("LOAD 1; LOAD 2; DIV; RETURN", 3, -7, -2);
    gives("LOAD 1; LOAD 2; DIV; RETURN", 0, -1, 2);
    gives("LOAD 1; LOAD 2; DIV; RETURN", 0, 0, 5);
    gives("LOAD 1; LOAD 2; DIV; RETURN", 0, MAX, MIN);
    for (int p : new int[] {MIN, -1, 0, 1, MAX}) {
      signals("LOAD 1; LOAD 2; DIV; RETURN", ARITHMETIC, 3, p, 0);
    }
  }

  private static void jumps() {
    String zero = "LOAD 1; ZERO 4; PUSH 11; RETURN; PUSH 22; RETURN";
    gives(zero, 22, 0, 0);
    for (int p : new int[] {MIN, -1, 1, MAX}) {
      gives(zero, 11, p, 0);
    }
    String less = "LOAD 1; LOAD 2; LESS 5; PUSH 11; RETURN; PUSH 22; RETURN";
    gives(less, 22, 0, 1);
    gives(less, 11, 0, 0);
    gives(less, 11, 1, 0);
    gives(less, 22, MIN, MAX);
    gives(less, 11, MAX, MIN);
    gives(less, 22, MIN, 0);
    gives(less, 11, MIN, MIN);
    gives("GOTO 3; PUSH 11; RETURN; PUSH 22; RETURN", 22, 0, 0);
    String isNull = "; ISNULL 5; PUSH 11; RETURN; PUSH 22; RETURN";
    gives("PUSH 1; EMPTY" + isNull, 22, 0, 0);
    gives("PUSH 1; LOAD 0" + isNull, 11, 0, 0);
    gives("PUSH 0; ROW" + isNull, 11, 0, 0);
    gives("LOAD 0; GET 1" + isNull, 22, 0, 0);
  }

  /** "NEW: an OBJECT of class x, its FIELDS 0 or null", anew in each RUNNING. */
  private static void newFieldsAreZeroOrNull() {
    JavaChain x = world("NEW 4; STORE 3; LOAD 3; LOAD 1; SET 0; LOAD 3; PUSH 2; ROW; SET 1; LOAD 3; LOAD 0; SET 2"
        + "; NEW 4; DROP; LOAD 1; RETURN");
    for (int turn = 0; turn < 2; turn++) {
      x.run(0, 5, 0, 400, true);
      Check.due("the first: 0", 0, x.heap(0, 0));
      Check.due("the first: no ROW", -1, x.heap(0, 1));
      Check.due("the first: no OBJECT", -1, x.heap(0, 2));
      Check.due("the second: as SET", 5, x.heap(1, 0));
      Check.due("the second: the ROW", 2, x.heap(1, 1));
      Check.due("the second: the OBJECT", 0, x.heap(1, 2));
      Check.due("a new one: 0", 0, x.heap(3, 0));
      Check.due("a new one: no ROW", -1, x.heap(3, 1));
      Check.due("a new one: no OBJECT", -1, x.heap(3, 2));
    }
    Check.thrown("without FUEL", Check.STATE, () -> x.run(0, 5, 0, 1, true));
    Check.due("nothing is left in the second: 0", 0, x.heap(1, 0));
    Check.due("nothing is left in the second: null", -1, x.heap(1, 1));
  }

  /** "FIELD x % 32 of o, an OBJECT of class x / 32": a class above has the same numbers. */
  private static void fieldsByNumber() {
    gives("NEW 2; TWICE; LOAD 1; SET 0; GET 64; RETURN", 6, 6, 0);
    gives("NEW 2; TWICE; LOAD 1; SET 64; GET 32; RETURN", 6, 6, 0);
    gives("NEW 2; STORE 3; LOAD 3; LOAD 3; SET 34; LOAD 3; GET 66; LOAD 3; SAME; RETURN", 1, 6, 0);
    gives("LOAD 0; LOAD 0; SET 2; LOAD 0; EMPTY; SET 2; LOAD 0; GET 2; EMPTY; SAME; RETURN", 1, 0, 0);
  }

  /** "the METHOD of o's own class for that SLOT is done with these; its RESULT" */
  private static void callsByOwnClass() {
    int[] want = {4, 8, 8, 16, 4};
    for (int k = 0; k < 5; k++) {
      JavaChain x = dispatch(k);
      Check.due("the METHOD of class " + k + " for SLOT 3", want[k], x.run(5, 9, 5, 99, true));
      Check.faultless("CALL by class 0", x);
      Check.due("the same, not GUARDED", want[k], x.run(5, 9, 5, 99, false));
    }
  }

  /** Classes 0, 1 and 3 have METHODS of their own for SLOT 3; class 5 CALLS it by class 0. */
  private static JavaChain dispatch(int made) {
    JavaChain x = Write.family();
    for (int k : new int[] {0, 1, 3}) {
      x.method(k, 3, Write.INT, Write.INT, Write.INT);
      Write.code(x, k, 3, "LOAD 1; LOAD 2; SUB; PUSH " + (k + 1) + "; MUL; RETURN");
    }
    x.method(5, 0, Write.INT, Write.INT, Write.INT);
    Write.code(x, 5, 0, "NEW " + made + "; LOAD 1; LOAD 2; CALL 3; RETURN");
    return x;
  }

  /** "o, but if it is neither null nor an OBJECT of class x or one below: CASTING" */
  private static void casts() {
    int[][] below = {{0, 1, 2, 3, 4}, {1, 2, 3}, {2}, {3}, {4}, {5}};
    for (int asked = 0; asked < 6; asked++) {
      gives("EMPTY; CAST " + asked + "; EMPTY; SAME; RETURN", 1, 0, 0);
      for (int made = 0; made < 6; made++) {
        boolean fits = false;
        for (int k : below[asked]) {
          fits = fits || k == made;
        }
        String program = "NEW " + made + "; TWICE; CAST " + asked + "; SAME; RETURN";
        if (fits) {
          gives(program, 1, 0, 0);
        } else {
          signals(program, CASTING, 3, 0, 0);
        }
      }
    }
  }

  private static void throwsObjects() {
    for (int k = 0; k < 6; k++) {
      JavaChain x = world("NEW " + k + "; THROW");
      Check.faultless("THROW", x);
      Check.ends("THROWN of class " + k, x, 99, true, 7, k, 2, 2);
      Check.ends("THROWN of class " + k + ", not GUARDED", x, 99, false, 7, k, 2, 2);
    }
  }

  /** "a ROW of n ints 0; n is not 0 .. 8: BOUNDS" */
  private static void rowsOfNoneToEight() {
    for (int n = 0; n <= 8; n++) {
      JavaChain x = world("LOAD 1; ROW; SIZE; RETURN");
      Check.due("ROW " + n, n, x.run(0, n, 0, 99, true));
      for (int i = 0; i < n; i++) {
        Check.due("int " + i + " of ROW " + n, 0, x.heap(1, i));
      }
      int size = n;
      Check.thrown("none behind", Check.INDEX, () -> x.heap(1, size));
    }
    for (int n : new int[] {MIN, -1, 9, 10, MAX}) {
      signals("LOAD 1; ROW; SIZE; RETURN", BOUNDS, 2, n, 0);
    }
    JavaChain none = world("PUSH 9; ROW; SIZE; RETURN");
    Check.ends("no ROW is made", none, 99, true, 3, 0, 2, 1);
  }

  /** A ROW is "of n ints 0" wherever an earlier RUNNING had another ROW or an OBJECT. */
  private static void rowsAreZeroAgain() {
    JavaChain x = world("PUSH 8; ROW; STORE 3; LOAD 2; ZERO 9; LOAD 3; LOAD 1; LOAD 2; TO; PUSH 1; RETURN");
    for (int i = 0; i < 8; i++) {
      x.run(0, i, 9, 99, true);
      Check.due("int " + i + " is put", 9, x.heap(1, i));
      x.run(0, i, 0, 99, true);
      for (int j = 0; j < 8; j++) {
        Check.due("int " + j + " of a new ROW", 0, x.heap(1, j));
      }
    }
    JavaChain y = world("LOAD 1; ZERO 7; NEW 0; PUSH 6; SET 0; PUSH 1; RETURN; PUSH 3; ROW; DROP; PUSH 1; RETURN");
    Check.due("an OBJECT", 1, y.run(0, 1, 0, 99, true));
    Check.due("its FIELD", 6, y.heap(1, 0));
    Check.due("a ROW", 1, y.run(0, 0, 0, 99, true));
    Check.due("its first int", 0, y.heap(1, 0));
    Check.due("its second int", 0, y.heap(1, 1));
  }

  /** What is made next leaves the last FIELD of an OBJECT of 18 and the last int of a ROW of 8 alone. */
  private static void nothingBesideIsChanged() {
    for (String next : new String[] {"PUSH 8; ROW", "PUSH 0; ROW", "NEW 5", "NEW 0"}) {
      JavaChain x = Write.eighteen();
      Write.method(x, 5, 0, "LOAD 0; PUSH 17; SET 177; PUSH 8; ROW; TWICE; PUSH 7; PUSH 70; TO; STORE 3; " + next
          + "; STORE 4; NEW 5; TWICE; PUSH -1; SET 160; TWICE; PUSH -2; SET 177; DROP; PUSH 1; RETURN");
      Check.due("made", 1, x.run(5, 0, 0, 99, true));
      Check.due("FIELD 17 of the first, then " + next, 17, x.heap(0, 17));
      Check.due("int 7 of the ROW, then " + next, 70, x.heap(1, 7));
      Check.due("FIELD 0 of the last", -1, x.heap(3, 0));
      Check.due("FIELD 17 of the last", -2, x.heap(3, 17));
      Check.due("FIELD 16 of the first", 0, x.heap(0, 16));
      JavaChain y = Write.eighteen();
      Write.method(y, 5, 0, "LOAD 0; PUSH 17; SET 177; " + next + "; STORE 4; PUSH 1; RETURN");
      Check.due("made", 1, y.run(5, 0, 0, 99, true));
      Check.due("FIELD 17 of the first, " + next + " at once", 17, y.heap(0, 17));
    }
  }

  /** "AT r, i: int i of it; TO r, i, v: it is v; there is none: BOUNDS" */
  private static void edgesOfRows() {
    for (int n : new int[] {1, 3, 8}) {
      String at = "PUSH " + n + "; ROW; TWICE; LOAD 1; LOAD 2; TO; LOAD 1; AT; RETURN";
      gives(at, 5, 0, 5);
      gives(at, 5, n - 1, 5);
      for (int i : new int[] {MIN, -1, n, n + 1, MAX}) {
        signals(at, BOUNDS, 6, i, 5);
        signals("PUSH " + n + "; ROW; LOAD 1; AT; RETURN", BOUNDS, 4, i, 5);
      }
    }
    signals("PUSH 0; ROW; PUSH 0; AT; RETURN", BOUNDS, 4, 0, 0);
    signals("PUSH 0; ROW; PUSH 0; PUSH 5; TO; PUSH 1; RETURN", BOUNDS, 5, 0, 0);
    gives("PUSH 8; ROW; STORE 3; LOAD 3; PUSH 7; PUSH 9; TO; LOAD 3; PUSH 6; AT; RETURN", 0, 0, 0);
    gives("PUSH 8; ROW; STORE 3; PUSH 8; ROW; PUSH 7; PUSH 9; TO; LOAD 3; PUSH 7; AT; RETURN", 0, 0, 0);
  }

  /** "1 if both are null or the same, else 0" */
  private static void same() {
    gives("EMPTY; EMPTY; SAME; RETURN", 1, 0, 0);
    gives("LOAD 0; EMPTY; SAME; RETURN", 0, 0, 0);
    gives("EMPTY; LOAD 0; SAME; RETURN", 0, 0, 0);
    gives("LOAD 0; LOAD 0; SAME; RETURN", 1, 0, 0);
    gives("NEW 0; NEW 0; SAME; RETURN", 0, 0, 0);
    gives("PUSH 0; ROW; TWICE; SAME; RETURN", 1, 0, 0);
    gives("PUSH 0; ROW; PUSH 0; ROW; SAME; RETURN", 0, 0, 0);
    gives("PUSH 0; ROW; LOAD 0; SAME; RETURN", 0, 0, 0);
    gives("LOAD 0; GET 1; LOAD 0; GET 2; SAME; RETURN", 1, 0, 0);
  }

  /** "null for o, or r in 20 .. 22: MISSING" */
  private static void nullIsMissing() {
    signals("EMPTY; GET 0; RETURN", MISSING, 2, 0, 0);
    signals("EMPTY; PUSH 1; SET 0; PUSH 1; RETURN", MISSING, 3, 0, 0);
    signals("EMPTY; LOAD 1; LOAD 2; CALL 0; RETURN", MISSING, 4, 0, 0);
    signals("EMPTY; THROW", MISSING, 2, 0, 0);
    signals("EMPTY; PUSH 0; AT; RETURN", MISSING, 3, 0, 0);
    signals("EMPTY; PUSH 0; PUSH 0; TO; PUSH 1; RETURN", MISSING, 4, 0, 0);
    signals("EMPTY; SIZE; RETURN", MISSING, 2, 0, 0);
    signals("LOAD 0; GET 2; GET 0; RETURN", MISSING, 3, 0, 0);
    signals("LOAD 0; GET 1; SIZE; RETURN", MISSING, 3, 0, 0);
    gives("LOAD 0; EMPTY; SET 2; PUSH 1; RETURN", 1, 0, 0);
  }

  private static void missingBeforeBounds() {
    for (int i : new int[] {MIN, -1, 8, MAX}) {
      signals("EMPTY; LOAD 1; AT; RETURN", MISSING, 3, i, 0);
      signals("EMPTY; LOAD 1; LOAD 1; TO; PUSH 1; RETURN", MISSING, 4, i, 0);
    }
  }
}
