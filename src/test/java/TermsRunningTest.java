/** Terms: RUNNING, its FUEL, how much there may be, and what GUARDED looks for. */
public final class TermsRunningTest {
  public static void main(String[] args) {
    fuelForEachInstruction();
    fuelOfMethodsTogether();
    withoutFuelNoneIsLookedAt();
    mostFuel();
    twelveMethods();
    methodsOneAfterAnother();
    fortyMade();
    eachRunningAnew();
    tooMuchIsNotCaught();
    missingBeforeTooMuch();
    faultIsNotDone();
    faultsInCalledMethods();
    typesThatValuesHave();
    waysNotTaken();
    noMeetings();
    Check.end();
  }

  /** "one for each INSTRUCTION" */
  private static void fuelForEachInstruction() {
    JavaChain x = Write.ints("PUSH 1; PUSH 2; ADD; STORE 3; LOAD 3; RETURN");
    Check.faultless("six INSTRUCTIONS", x);
    for (boolean guarded : new boolean[] {true, false}) {
      for (int fuel = 1; fuel < 6; fuel++) {
        Check.ends("FUEL " + fuel, x, fuel, guarded, 5, 0, fuel, 1);
      }
      for (int fuel : new int[] {6, 7, 400}) {
        Check.due("FUEL " + fuel, 3, x.run(0, 0, 0, fuel, guarded));
        Check.outcome("FUEL " + fuel, x, 0, 0, 6, 1);
      }
    }
    JavaChain one = Write.ints("GOTO 0");
    Check.ends("FUEL 1", one, 1, true, 5, 0, 1, 1);
  }

  private static void fuelOfMethodsTogether() {
    JavaChain x = Write.ints("LOAD 0; CALL 1; RETURN");
    Write.method(x, 0, 1, "PUSH 1; RETURN");
    Check.faultless("a CALL", x);
    Check.due("five", 1, x.run(0, 0, 0, 5, false));
    Check.outcome("five", x, 0, 0, 5, 1);
    for (int fuel = 1; fuel < 5; fuel++) {
      Check.ends("FUEL " + fuel, x, fuel, false, 5, 0, fuel, 1);
    }
  }

  /** "(without any left none is looked at)" */
  private static void withoutFuelNoneIsLookedAt() {
    JavaChain x = Write.ints("PUSH 1; PUSH 0; DIV; RETURN");
    Check.ends("a SIGNAL is not seen", x, 2, true, 5, 0, 2, 1);
    Check.ends("a SIGNAL is seen", x, 3, true, 1, 0, 3, 1);
    JavaChain faulty = Write.ints("PUSH 1; DROP; DROP; PUSH 1; RETURN");
    Check.ends("a FAULT is not seen", faulty, 2, true, 5, 0, 2, 1);
    Check.ends("a FAULT is seen", faulty, 3, true, 8, 1, 2, 1);
    JavaChain thrown = Write.ints("LOAD 0; THROW");
    Check.ends("nothing THROWN", thrown, 1, true, 5, 0, 1, 1);
    Check.ends("THROWN", thrown, 2, true, 7, 0, 2, 1);
    JavaChain made = Write.ints("PUSH 1; NEW 0; DROP; RETURN");
    Check.ends("nothing made", made, 1, true, 5, 0, 1, 1);
    Check.ends("made", made, 2, true, 5, 0, 2, 2);
  }

  /** FUEL 400: a loop, then a RESULT with the last of it. */
  private static void mostFuel() {
    JavaChain x = Write.ints("LOAD 1; PUSH 1; SUB; STORE 1; LOAD 1; ZERO 7; GOTO 0; LOAD 2; RETURN");
    // Each turn but the last is 7, the last 6, and 2 behind.
    Check.due("57 turns", 5, x.run(0, 57, 5, 400, true));
    Check.outcome("57 turns", x, 0, 0, 400, 1);
    Check.thrown("58 turns", Check.STATE, () -> x.run(0, 58, 5, 400, true));
    Check.outcome("58 turns", x, 5, 0, 400, 1);
    Check.thrown("one FUEL less", Check.STATE, () -> x.run(0, 57, 5, 399, true));
    Check.outcome("one FUEL less", x, 5, 0, 399, 1);
  }

  /** Goes as deep as a tells, then answers b. */
  private static JavaChain deep() {
    return Write.ints("LOAD 1; ZERO 8; LOAD 0; LOAD 1; PUSH 1; SUB; LOAD 2; GOTO 10; LOAD 2; RETURN; CALL 0; RETURN");
  }

  /** "at most 12 METHODS are under way" */
  private static void twelveMethods() {
    JavaChain x = deep();
    Check.faultless("METHODS", x);
    for (boolean guarded : new boolean[] {true, false}) {
      for (int more = 0; more <= 11; more++) {
        Check.due(more + 1 + " METHODS", 9, x.run(0, more, 9, 400, guarded));
        Check.due("done", 10 * more + 4, x.outcome(2));
      }
      for (int more : new int[] {12, 13, Integer.MAX_VALUE}) {
        Check.thrown("more", Check.STATE, () -> x.run(0, more, 9, 400, guarded));
        Check.outcome("13 METHODS", x, 6, 0, 9 * 12, 1);
      }
    }
  }

  private static void methodsOneAfterAnother() {
    JavaChain x = Write.ints("LOAD 1; ZERO 10; LOAD 0; CALL 1; DROP; LOAD 1; PUSH 1; SUB; STORE 1; GOTO 0; LOAD 2"
        + "; RETURN");
    Write.method(x, 0, 1, "PUSH 1; RETURN");
    Check.due("30 METHODS, one after another", 9, x.run(0, 30, 9, 400, true));
  }

  /** Makes a OBJECTS, then a ROW of b. */
  private static JavaChain maker() {
    return Write.ints("LOAD 1; ZERO 9; NEW 0; DROP; LOAD 1; PUSH 1; SUB; STORE 1; GOTO 0; LOAD 2; ROW; SIZE; RETURN");
  }

  /** "40 OBJECTS and ROWS are made", the one that RUNNING begins with among them. */
  private static void fortyMade() {
    JavaChain x = maker();
    Check.faultless("OBJECTS and ROWS", x);
    for (boolean guarded : new boolean[] {true, false}) {
      Check.due("38, a ROW and the first", 3, x.run(0, 38, 3, 400, guarded));
      Check.due("40 made", 40, x.outcome(3));
      Check.due("the last int of the last one", 0, x.heap(39, 2));
      Check.thrown("no more", Check.INDEX, () -> x.heap(40, 0));
      Check.thrown("a ROW is too much", Check.STATE, () -> x.run(0, 39, 3, 400, guarded));
      Check.outcome("a ROW is too much", x, 6, 0, 39 * 9 + 4, 40);
      Check.thrown("an OBJECT is too much", Check.STATE, () -> x.run(0, 40, 3, 400, guarded));
      Check.outcome("an OBJECT is too much", x, 6, 0, 39 * 9 + 3, 40);
      Check.thrown("a ROW that can't be is none", Check.STATE, () -> x.run(0, 39, 9, 400, guarded));
      Check.outcome("a ROW that can't be is none", x, 3, 0, 39 * 9 + 4, 40);
    }
    JavaChain rows = Write.ints("PUSH 8; ROW; DROP; GOTO 0");
    Check.ends("ROWS alone", rows, 400, true, 6, 0, 39 * 4 + 2, 40);
    Check.ends("40 in all and no FUEL", rows, 39 * 4 + 1, true, 5, 0, 39 * 4 + 1, 40);
  }

  private static void eachRunningAnew() {
    JavaChain x = maker();
    for (int turn = 0; turn < 3; turn++) {
      Check.due("40 made again", 8, x.run(0, 38, 8, 400, true));
    }
    Check.thrown("41", Check.STATE, () -> x.run(0, 40, 8, 400, true));
    Check.due("and again", 0, x.run(0, 0, 0, 400, true));
    Check.outcome("two are made", x, 0, 0, 6, 2);
    JavaChain y = deep();
    Check.thrown("13 METHODS", Check.STATE, () -> y.run(0, 12, 9, 400, true));
    Check.due("12 METHODS", 9, y.run(0, 11, 9, 400, true));
  }

  /** It is no SIGNAL, so no CATCHER is for it; so it is with FUEL and FAULTS. */
  private static void tooMuchIsNotCaught() {
    JavaChain made = Write.ints("NEW 0; DROP; GOTO 0; PUSH 1; RETURN");
    made.catcher(0, 0, Write.span(0, 3), 3, Write.ALL);
    Check.ends("OBJECTS", made, 400, true, 6, 0, 39 * 3 + 1, 40);
    JavaChain calls = Write.single(Write.NONE, Write.NONE, Write.INT, "LOAD 0; CALL 0; RETURN; PUSH 1; RETURN");
    calls.catcher(0, 0, Write.span(0, 3), 3, Write.ALL);
    Check.ends("METHODS", calls, 400, true, 6, 0, 24, 1);
    JavaChain fuel = Write.ints("GOTO 0; PUSH 1; RETURN");
    fuel.catcher(0, 0, Write.span(0, 1), 1, Write.ALL);
    Check.ends("FUEL", fuel, 50, true, 5, 0, 50, 1);
    JavaChain fault = Write.ints("PUSH 1; ADD; PUSH 1; RETURN");
    fault.catcher(0, 0, Write.span(0, 2), 2, Write.ALL);
    Check.ends("a FAULT", fault, 50, true, 8, 1, 1, 1);
  }

  /** With 12 METHODS under way a CALL of null is MISSING, for none would be done. */
  private static void missingBeforeTooMuch() {
    JavaChain x = Write.ints("LOAD 1; ZERO 8; LOAD 0; LOAD 1; PUSH 1; SUB; LOAD 2; GOTO 11; EMPTY; LOAD 1; LOAD 2"
        + "; CALL 0; RETURN");
    Check.thrown("null", Check.STATE, () -> x.run(0, 11, 0, 400, true));
    Check.outcome("null", x, 2, 0, 9 * 11 + 6, 1);
  }

  /** "which is not done and takes nothing then" */
  private static void faultIsNotDone() {
    JavaChain x = Write.ints("LOAD 0; PUSH 7; SET 0; LOAD 0; EMPTY; SET 0; PUSH 1; RETURN");
    x.field(0, Write.INT);
    Check.ends("SET of null for an INT", x, 6, true, 8, 2, 5, 1);
    Check.due("the FIELD is as it was", 7, x.heap(0, 0));
    Check.ends("no FUEL for it", x, 5, true, 5, 0, 5, 1);
    JavaChain made = Write.ints("PUSH 1; PUSH 1; PUSH 1; PUSH 1; PUSH 1; NEW 0; RETURN");
    Check.ends("NEW with five on the STACK makes none", made, 99, true, 8, 1, 5, 1);
    JavaChain first = Write.ints("ADD; RETURN");
    Check.ends("the very first", first, 1, true, 8, 1, 0, 1);
  }

  private static void faultsInCalledMethods() {
    JavaChain x = Write.ints("LOAD 0; CALL 1; RETURN");
    Write.method(x, 0, 1, "EMPTY; RETURN");
    Check.ends("RETURN of what its RESULT is not", x, 99, true, 8, 2, 3, 1);
    JavaChain y = Write.ints("LOAD 0; CALL 1; RETURN");
    y.method(0, 1, Write.NONE, Write.NONE, Write.ROWS);
    Write.code(y, 0, 1, "EMPTY; RETURN");
    Check.ends("in the METHOD that was CALLED from", y, 99, true, 8, 2, 4, 1);
    JavaChain empty = Write.ints("LOAD 0; CALL 1; RETURN");
    empty.method(0, 1, Write.NONE, Write.NONE, Write.INT);
    Check.ends("a METHOD without INSTRUCTIONS", empty, 99, true, 8, 4, 2, 1);
  }

  /** "with the TYPES that values have (null NULL, an OBJECT that of its class)" */
  private static void typesThatValuesHave() {
    JavaChain x = Write.single(10, Write.ROWS, Write.ROWS, "LOAD 1; RETURN");
    Check.due("null of an OBJECT for a ROW", -1, x.run(0, 0, 0, 99, true));
    Check.fault("VERIFYING knows the OBJECT", 2, 1, x);
    JavaChain row = Write.single(10, Write.ROWS, 10, "LOAD 2; CAST 0; RETURN");
    Check.due("null of a ROW for CAST", -1, row.run(0, 0, 0, 99, true));
    Check.fault("VERIFYING knows the ROW", 2, 1, row);
    JavaChain field = Write.single(Write.NONE, Write.NONE, 10, "LOAD 0; GET 0; RETURN");
    field.field(0, Write.ROWS);
    Check.due("null of a FIELD", -1, field.run(0, 0, 0, 99, true));
    JavaChain below = Write.single(Write.NONE, Write.NONE, 12, "LOAD 0; NEW 2; SET 0; LOAD 0; GET 0; RETURN");
    below.field(0, 10);
    Write.belowZero(below);
    Check.due("an OBJECT of a FIELD has its own class", 1, below.run(0, 0, 0, 99, true));
    Check.fault("VERIFYING knows the FIELD's", 2, 5, below);
    JavaChain result = Write.single(Write.NONE, Write.NONE, 12, "LOAD 0; CALL 1; RETURN");
    Write.belowZero(result);
    result.method(0, 1, Write.NONE, Write.NONE, 10);
    Write.code(result, 0, 1, "NEW 2; RETURN");
    Check.due("so has a RESULT", 1, result.run(0, 0, 0, 99, true));
    JavaChain self = Write.single(Write.NONE, Write.NONE, 12, "LOAD 0; RETURN");
    Write.belowZero(self);
    Check.due("so has LOCAL 0", 0, self.run(2, 0, 0, 99, true));
    Check.ends("not so one above", self, 99, true, 8, 2, 1, 1);
    JavaChain cast = Write.single(Write.NONE, Write.NONE, 12, "NEW 2; CAST 0; RETURN");
    Write.belowZero(cast);
    Check.due("CAST leaves it", 1, cast.run(0, 0, 0, 99, true));
  }

  private static void waysNotTaken() {
    JavaChain x = Write.ints("LOAD 1; ZERO 3; ADD; PUSH 5; RETURN");
    Check.fault("VERIFYING looks along all ways", 1, 2, x);
    Check.due("this one is fine", 5, x.run(0, 0, 0, 99, true));
    Check.thrown("that one is not", Check.STATE, () -> x.run(0, 1, 0, 99, true));
    Check.outcome("that one is not", x, 8, 1, 2, 1);
    JavaChain other = Write.ints("PUSH 5; RETURN");
    other.method(0, 1, 15, Write.NONE, 14);
    Check.due("a METHOD that is not done", 5, other.run(0, 0, 0, 99, true));
  }

  /** "the FAULTS 4, 5, 1 and 2": not 3. */
  private static void noMeetings() {
    JavaChain x = Write.ints("LOAD 1; ZERO 4; PUSH 1; PUSH 2; PUSH 9; RETURN");
    Check.fault("heights", 3, 3, x);
    Check.due("from 0", 9, x.run(0, 0, 0, 99, true));
    Check.due("from 2", 9, x.run(0, 1, 0, 99, true));
    JavaChain types = Write.ints("LOAD 1; ZERO 4; PUSH 1; GOTO 5; EMPTY; DROP; PUSH 9; RETURN");
    Check.fault("an INT and null", 3, 4, types);
    Check.due("an INT", 9, types.run(0, 1, 0, 99, true));
    Check.due("null", 9, types.run(0, 0, 0, 99, true));
  }
}
