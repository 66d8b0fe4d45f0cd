/** Terms: CLASSES, their SUPERS, FIELDS and METHODS. */
public final class TermsClassesTest {
  public static void main(String[] args) {
    threeFieldsEachInSixClasses();
    superFieldsFirstThenOwnAsPut();
    fieldsOfClassesBeside();
    methodIsItsOwnElseTheSupers();
    allSlotsOfAllClasses();
    noParametersOneOrTwo();
    sixLocals();
    Check.end();
  }

  /** "up to 3 FIELDS of its own", "numbers from 0": 18 in the last of six classes. */
  private static void threeFieldsEachInSixClasses() {
    JavaChain x = new JavaChain();
    for (int k = 0; k < 6; k++) {
      x.define(k, k - 1);
      for (int f = 0; f < 3; f++) {
        Check.due("FIELD of class " + k, 3 * k + f, x.field(k, Write.INT));
      }
      int full = k;
      Check.thrown("a fourth of class " + k, Check.STATE, () -> x.field(full, Write.INT));
    }
    Write.method(x, 5, 0, "LOAD 0; PUSH 71; SET 177; LOAD 0; PUSH 6; SET 160; LOAD 0; GET 177; RETURN");
    Check.due("FIELD 17", 71, x.run(5, 0, 0, 99, true));
    for (int f = 0; f < 18; f++) {
      Check.due("heap of FIELD " + f, f == 17 ? 71 : f == 0 ? 6 : 0, x.heap(0, f));
    }
    Check.thrown("no FIELD 18", Check.INDEX, () -> x.heap(0, 18));
    Check.faultless("FIELD 17 of class 5", x);
    Check.due("FIELD 17, not GUARDED", 71, x.run(5, 0, 0, 99, false));
    for (int k = 0; k < 6; k++) {
      JavaChain last = asksForField(k, 3 * k + 2);
      Check.faultless("the last FIELD of class " + k, last);
      Check.fault("none behind it, class " + k, 5, 5001, asksForField(k, 3 * k + 3));
    }
  }

  private static JavaChain asksForField(int k, int f) {
    JavaChain x = Write.eighteen();
    Write.method(x, 5, 0, "LOAD 0; GET " + (32 * k + f) + "; RETURN");
    return x;
  }

  /** "first those of its SUPER, then its own as they were put": told by their TYPES. */
  private static void superFieldsFirstThenOwnAsPut() {
    JavaChain x = new JavaChain();
    x.define(0, -1);
    x.field(0, Write.ROWS);
    x.field(0, Write.INT);
    x.define(1, 0);
    x.define(2, 1);
    x.field(2, 12);
    x.field(2, Write.ROWS);
    x.field(2, 10);
    Write.method(x, 2, 0, "LOAD 0; GET 64; LOAD 0; GET 65; LOAD 0; GET 66; LOAD 0; GET 67; LOAD 0; GET 68; PUSH 1");
    Check.fault("none behind the last", 4, 2010, x);
    int[] want = {Write.ROWS, Write.INT, 12, Write.ROWS, 10};
    for (int f = 0; f < 5; f++) {
      Check.due("TYPE of FIELD " + f, want[f], x.map(2, 0, 10, 7 + f));
    }
  }

  private static void fieldsOfClassesBeside() {
    JavaChain x = new JavaChain();
    x.define(0, -1);
    x.field(0, Write.INT);
    x.define(1, 0);
    x.define(2, 0);
    Check.due("class 1", 1, x.field(1, Write.INT));
    Check.due("class 2", 1, x.field(2, Write.ROWS));
    Check.due("class 1 again", 2, x.field(1, Write.INT));
    Check.due("in all, class 2", 2, x.about(2, 2));
    Check.due("in all, class 1", 3, x.about(1, 2));
    Check.due("in all, class 0", 1, x.about(0, 2));
  }

  /** "The METHOD of a class for a SLOT is its own, else that of its SUPER." */
  private static void methodIsItsOwnElseTheSupers() {
    JavaChain x = Write.chain();
    Write.method(x, 1, 0, "PUSH 100; RETURN");
    Write.method(x, 4, 0, "PUSH 400; RETURN");
    Check.thrown("class 0 has none", Check.INDEX, () -> x.run(0, 0, 0, 9, true));
    for (int k = 1; k < 6; k++) {
      Check.due("of class " + k, k < 4 ? 100 : 400, x.run(k, 0, 0, 9, true));
    }
    JavaChain far = Write.chain();
    Write.method(far, 0, 0, "LOAD 0; CALL 22; RETURN");
    Check.fault("no METHOD of class 5 for SLOT 2", 5, 1, far);
    Write.method(far, 0, 2, "PUSH 7; RETURN");
    Check.due("that of five SUPERS above", 7, far.run(5, 0, 0, 9, true));
    Check.fault("o is known to be of class 0 alone", 2, 1, far);
  }

  /** "METHODS in SLOTS 0 .. 3": 24 in all. */
  private static void allSlotsOfAllClasses() {
    JavaChain x = Write.chain();
    for (int k = 0; k < 6; k++) {
      int at = 4 * k;
      Write.method(x, k, 0, "LOAD 0; CALL " + (at + 1) + "; PUSH 100; MUL; LOAD 0; CALL " + (at + 2) + "; ADD; PUSH 100"
          + "; MUL; LOAD 0; CALL " + (at + 3) + "; ADD; RETURN");
      for (int slot = 1; slot < 4; slot++) {
        Write.method(x, k, slot, "PUSH " + (10 * k + slot) + "; RETURN");
      }
      Check.due("METHODS up to class " + k, 4 * k + 4, x.verify());
    }
    for (int k = 0; k < 6; k++) {
      int want = 10000 * (10 * k + 1) + 100 * (10 * k + 2) + 10 * k + 3;
      Check.due("SLOTS of class " + k, want, x.run(k, 0, 0, 99, false));
    }
  }

  /** "A METHOD has none, one or two PARAMETERS": a CALL takes just as many. */
  private static void noParametersOneOrTwo() {
    JavaChain x = Write.ints("PUSH 1000; LOAD 0; CALL 1; ADD; LOAD 0; LOAD 1; CALL 2; ADD; LOAD 0; LOAD 1; LOAD 2"
        + "; CALL 3; ADD; RETURN");
    Write.method(x, 0, 1, "PUSH 1; RETURN");
    x.method(0, 2, Write.INT, Write.NONE, Write.INT);
    Write.code(x, 0, 2, "LOAD 1; PUSH 10; MUL; RETURN");
    x.method(0, 3, Write.INT, Write.INT, Write.INT);
    Write.code(x, 0, 3, "LOAD 1; LOAD 2; SUB; PUSH 100; MUL; RETURN");
    Check.due("GUARDED", 1000 + 1 + 70 + 400, x.run(0, 7, 3, 99, true));
    Check.due("METHODS", 4, x.verify());
    Check.due("not GUARDED", 1000 + 1 + 70 + 400, x.run(0, 7, 3, 99, false));
  }

  /** "It has 6 LOCALS": each METHOD under way has its own. */
  private static void sixLocals() {
    StringBuilder stores = new StringBuilder();
    for (int i = 0; i < 6; i++) {
      stores.append("PUSH ").append(1 << i).append("; STORE ").append(i).append("; ");
    }
    JavaChain x = Write.ints(stores + "LOAD 0; LOAD 1; ADD; LOAD 2; LOAD 3; ADD; LOAD 4; ADD; LOAD 5; ADD; ADD"
        + "; RETURN");
    Check.due("six LOCALS, GUARDED", 63, x.run(0, 0, 0, 99, true));
    Check.faultless("six LOCALS", x);
    Check.due("six LOCALS", 63, x.run(0, 0, 0, 99, false));
    JavaChain own = Write.ints("PUSH 5; STORE 5; LOAD 0; CALL 1; LOAD 5; ADD; RETURN");
    Write.method(own, 0, 1, "PUSH 70; STORE 5; LOAD 5; RETURN");
    Check.due("the caller's stay", 75, own.run(0, 0, 0, 99, true));
    JavaChain fresh = Write.ints("PUSH 5; STORE 5; LOAD 0; CALL 1; RETURN");
    Write.method(fresh, 0, 1, "LOAD 5; RETURN");
    Check.ends("those of the METHOD are NONE", fresh, 99, true, 8, 2, 4, 1);
    JavaChain again = Write.ints("LOAD 0; CALL 1; DROP; LOAD 0; CALL 2; RETURN");
    Write.method(again, 0, 1, "PUSH 5; STORE 3; LOAD 3; RETURN");
    Write.method(again, 0, 2, "LOAD 3; RETURN");
    Check.ends("nothing is left of a METHOD before", again, 99, true, 8, 2, 9, 1);
  }
}
