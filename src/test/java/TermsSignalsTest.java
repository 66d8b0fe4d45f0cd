/** Terms: SIGNALS, what is THROWN, and the CATCHERS for them. */
public final class TermsSignalsTest {
  private static final String[] SIGNALS = {"PUSH 1; PUSH 0; DIV", "PUSH 1; EMPTY; SIZE", "PUSH 1; PUSH 9; ROW",
      "PUSH 1; NEW 0; CAST 5"};

  public static void main(String[] args) {
    numbers();
    caughtByAllAlone();
    fromAndTo();
    firstThatFits();
    classOrOneBelow();
    stackIsJustTheObject();
    stackIsNothingForAll();
    localsStay();
    leavesMethods();
    calleeBeforeCaller();
    caughtOutsideCallsAnew();
    catchingTakesNoFuel();
    targetInItsOwnSpan();
    Check.end();
  }

  /** An answer of METHOD 0 of class 0 by both ways. */
  private static void gives(String what, int want, JavaChain x) {
    Check.due(what + ", GUARDED", want, x.run(0, 0, 0, 400, true));
    Check.faultless(what, x);
    Check.due(what, want, x.run(0, 0, 0, 400, false));
  }

  private static void ends(String what, JavaChain x, int... want) {
    Check.ends(what + ", GUARDED", x, 400, true, want);
    Check.faultless(what, x);
    Check.ends(what, x, 400, false, want);
  }

  private static JavaChain world(String program) {
    JavaChain x = Write.ints(program);
    Write.belowZero(x);
    return x;
  }

  private static void numbers() {
    for (int i = 0; i < 4; i++) {
      ends("SIGNAL " + (i + 1), world(SIGNALS[i] + "; STORE 3; PUSH 1; RETURN"), i + 1, 0, 3, i == 3 ? 2 : 1);
    }
  }

  private static void caughtByAllAlone() {
    for (int i = 0; i < 4; i++) {
      for (int kind = 0; kind < 6; kind++) {
        JavaChain x = world(SIGNALS[i] + "; STORE 3; PUSH 1; RETURN; DROP; PUSH 5; RETURN");
        x.catcher(0, 0, Write.span(0, 6), 6, kind);
        ends("a SIGNAL is of no class " + kind, x, i + 1, 0, 3, i == 3 ? 2 : 1);
      }
      JavaChain x = world(SIGNALS[i] + "; STORE 3; PUSH 1; RETURN; PUSH 5; RETURN");
      x.catcher(0, 0, Write.span(2, 3), 6, Write.ALL);
      gives("ALL catches SIGNAL " + (i + 1), 5, x);
    }
  }

  /** "FROM .. c .. TO - 1" */
  private static void fromAndTo() {
    for (int from = 0; from < 32; from++) {
      for (int to = 0; to < 32; to++) {
        JavaChain x = world("PUSH 1; PUSH 0; DIV; STORE 3; PUSH 4; RETURN; PUSH 5; RETURN");
        x.catcher(0, 0, Write.span(from, to), 6, Write.ALL);
        if (from <= 2 && 2 <= to - 1) {
          Check.due("FROM " + from + " TO " + to, 5, x.run(0, 0, 0, 99, true));
        } else {
          Check.ends("FROM " + from + " TO " + to, x, 99, true, 1, 0, 3, 1);
        }
      }
    }
    for (int to = 23; to < 32; to++) {
      JavaChain last = throwsLast();
      last.catcher(0, 0, Write.span(23, to), 1, Write.ALL);
      if (to == 23) {
        ends("INSTRUCTION 23, TO 23", last, 7, 0, 22, 1);
      } else {
        gives("INSTRUCTION 23, TO " + to, 7, last);
      }
    }
  }

  /** 24 INSTRUCTIONS, the last of which THROWS. */
  private static JavaChain throwsLast() {
    StringBuilder program = new StringBuilder("GOTO 3; PUSH 7; RETURN; ");
    for (int i = 3; i < 22; i++) {
      program.append("GOTO ").append(i + 1).append("; ");
    }
    JavaChain x = world(program + "LOAD 0; THROW");
    Check.due("24 INSTRUCTIONS", 24, x.about(0, 3));
    return x;
  }

  /** "the first CATCHER of the METHOD .." */
  private static void firstThatFits() {
    String program = "NEW 2; THROW; STORE 3; PUSH 10; RETURN; STORE 3; PUSH 20; RETURN; PUSH 30; RETURN";
    int[] targetOf = {2, 5};
    int[][] kinds = {{2, 2, 10}, {1, 0, 10}, {0, 2, 10}, {3, 2, 20}, {4, 1, 20}, {5, 0, 20}, {4, 6, 30}, {2, 6, 10},
        {6, 2, 30}, {6, 6, 30}};
    for (int[] kind : kinds) {
      JavaChain x = world(program);
      for (int i = 0; i < 2; i++) {
        x.catcher(0, 0, Write.span(1, 2), kind[i] == Write.ALL ? 8 : targetOf[i], kind[i]);
      }
      gives("CATCHERS of " + kind[0] + " and " + kind[1], kind[2], x);
    }
    JavaChain apart = world(program);
    apart.catcher(0, 0, Write.span(2, 9), 2, 0);
    apart.catcher(0, 0, Write.span(1, 2), 5, 0);
    gives("the first is not around it", 20, apart);
    JavaChain none = world(program);
    none.catcher(0, 0, Write.span(1, 2), 2, 3);
    none.catcher(0, 0, Write.span(0, 1), 5, 0);
    ends("none fits", none, 7, 2, 2, 2);
  }

  /** "of a class that the OBJECT THROWN is of, or one below" */
  private static void classOrOneBelow() {
    String[] below = {"01234", "123", "2", "3", "4", "5"};
    for (int kind = 0; kind < 6; kind++) {
      for (int made = 0; made < 6; made++) {
        JavaChain x = world("NEW " + made + "; THROW; STORE 3; PUSH 10; RETURN");
        x.catcher(0, 0, Write.span(1, 2), 2, kind);
        String what = "an OBJECT of class " + made + " by a CATCHER of " + kind;
        if (below[kind].indexOf('0' + made) >= 0) {
          gives(what, 10, x);
        } else {
          ends(what, x, 7, made, 2, 2);
        }
      }
    }
  }

  /** "the STACK is just that OBJECT" */
  private static void stackIsJustTheObject() {
    JavaChain x = Write.single(Write.NONE, Write.NONE, 10, "PUSH 1; PUSH 1; PUSH 1; PUSH 1; NEW 2; THROW; RETURN");
    Write.belowZero(x);
    x.catcher(0, 0, Write.span(5, 6), 6, 0);
    gives("the OBJECT", 1, x);
    JavaChain high = world("PUSH 1; PUSH 1; PUSH 1; PUSH 1; NEW 2; THROW; PUSH 1; PUSH 1; PUSH 1; PUSH 1; RETURN");
    high.catcher(0, 0, Write.span(5, 6), 6, 0);
    gives("there is room for four", 1, high);
    JavaChain over = world("PUSH 1; NEW 2; THROW; PUSH 1; PUSH 1; PUSH 1; PUSH 1; PUSH 1; RETURN");
    over.catcher(0, 0, Write.span(2, 3), 3, 0);
    Check.ends("not for five", over, 99, true, 8, 1, 7, 2);
    JavaChain type = Write.single(Write.NONE, Write.NONE, 12, "NEW 2; THROW; RETURN");
    Write.belowZero(type);
    type.catcher(0, 0, Write.span(1, 2), 2, 0);
    Check.due("GUARDED it has its own TYPE", 1, type.run(0, 0, 0, 99, true));
    Check.fault("VERIFYING knows the CATCHER's", 2, 2, type);
  }

  /** "(for ALL: nothing)" */
  private static void stackIsNothingForAll() {
    JavaChain x = world("PUSH 1; NEW 2; THROW; PUSH 7; PUSH 1; PUSH 1; PUSH 1; PUSH 1; DROP; DROP; DROP; DROP; RETURN");
    x.catcher(0, 0, Write.span(2, 3), 3, Write.ALL);
    gives("there is room for five", 7, x);
    JavaChain none = world("PUSH 1; NEW 2; THROW; RETURN");
    none.catcher(0, 0, Write.span(2, 3), 3, Write.ALL);
    Check.ends("nothing is there", none, 99, true, 8, 1, 3, 2);
    Check.fault("nothing is known to be there", 1, 3, none);
  }

  private static void localsStay() {
    JavaChain x = world("PUSH 8; STORE 5; PUSH 1; PUSH 0; DIV; RETURN; LOAD 5; RETURN");
    x.catcher(0, 0, Write.span(4, 5), 6, Write.ALL);
    gives("as they were at the SIGNAL", 8, x);
  }

  /** METHOD 0 CALLS 1, which CALLS 2, which does this. */
  private static JavaChain deep(String program) {
    JavaChain x = world("PUSH 8; STORE 5; PUSH 4; LOAD 0; CALL 1; ADD; RETURN; LOAD 5; RETURN; STORE 4; LOAD 5; PUSH 1"
        + "; ADD; RETURN");
    Write.method(x, 0, 1, "PUSH 1; STORE 5; PUSH 3; LOAD 0; CALL 2; ADD; RETURN; LOAD 5; RETURN");
    Write.method(x, 0, 2, program);
    return x;
  }

  /** "None: the METHOD is left, and it is the same at the CALL that it was done for." */
  private static void leavesMethods() {
    for (int c = 2; c < 7; c++) {
      JavaChain x = deep("PUSH 1; PUSH 0; DIV; RETURN");
      x.catcher(0, 0, Write.span(c, c + 1), 7, Write.ALL);
      if (c == 4) {
        gives("a SIGNAL, the CATCHER around the CALL", 8, x);
      } else {
        ends("a SIGNAL, a CATCHER around " + c, x, 1, 0, 13, 1);
      }
    }
    JavaChain thrown = deep("NEW 3; THROW");
    thrown.catcher(0, 0, Write.span(4, 5), 9, 1);
    gives("THROWN through two METHODS", 9, thrown);
    JavaChain beside = deep("NEW 3; THROW");
    beside.catcher(0, 0, Write.span(4, 5), 9, 2);
    ends("of no class that is caught", beside, 7, 3, 12, 2);
    JavaChain missing = deep("EMPTY; CALL 1; RETURN; PUSH 50; RETURN");
    missing.catcher(0, 2, Write.span(1, 2), 3, Write.ALL);
    gives("null for the o of a CALL is a SIGNAL at that CALL", 4 + 3 + 50, missing);
  }

  private static void calleeBeforeCaller() {
    JavaChain x = deep("PUSH 1; PUSH 0; DIV; RETURN; PUSH 60; RETURN");
    x.catcher(0, 0, Write.span(2, 6), 7, Write.ALL);
    x.catcher(0, 1, Write.span(4, 5), 7, Write.ALL);
    x.catcher(0, 2, Write.span(2, 3), 4, Write.ALL);
    gives("the METHOD's own", 4 + 3 + 60, x);
    Check.due("done to the end", 5 + 5 + 5 + 2 + 2, x.outcome(2));
    JavaChain middle = deep("PUSH 1; PUSH 0; DIV; RETURN");
    middle.catcher(0, 0, Write.span(2, 6), 7, Write.ALL);
    middle.catcher(0, 1, Write.span(4, 5), 7, Write.ALL);
    gives("else the one that it was CALLED from", 4 + 1, middle);
    Check.due("done there", 5 + 5 + 3 + 2 + 2, middle.outcome(2));
  }

  /** METHODS that are left by a SIGNAL are no more under way. */
  private static void caughtOutsideCallsAnew() {
    JavaChain x = Write.ints("PUSH 3; STORE 3; LOAD 3; ZERO 12; LOAD 3; PUSH 1; SUB; STORE 3; LOAD 0; PUSH 10; CALL 1"
        + "; RETURN; PUSH 77; RETURN");
    x.catcher(0, 0, Write.span(10, 11), 2, Write.ALL);
    x.method(0, 1, Write.INT, Write.NONE, Write.INT);
    Write.code(x, 0, 1, "LOAD 1; ZERO 8; LOAD 0; LOAD 1; PUSH 1; SUB; CALL 1; RETURN; PUSH 1; PUSH 0; DIV; RETURN");
    gives("three times to the 12th METHOD", 77, x);
  }

  private static void catchingTakesNoFuel() {
    JavaChain x = world("PUSH 1; PUSH 0; DIV; RETURN; PUSH 5; RETURN");
    x.catcher(0, 0, Write.span(2, 3), 4, Write.ALL);
    Check.due("five INSTRUCTIONS", 5, x.run(0, 0, 0, 5, true));
    Check.outcome("five INSTRUCTIONS", x, 0, 0, 5, 1);
    Check.ends("four", x, 4, true, 5, 0, 4, 1);
  }

  private static void targetInItsOwnSpan() {
    JavaChain x = world("PUSH 1; PUSH 0; DIV; RETURN");
    x.catcher(0, 0, Write.span(0, 4), 0, Write.ALL);
    Check.ends("again and again", x, 400, true, 5, 0, 400, 1);
  }
}
