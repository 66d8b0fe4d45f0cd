/** Promise 12. */
public final class HeapTest {
  public static void main(String[] args) {
    JavaChain x = new JavaChain();
    Check.thrown("no RUNNING", Check.INDEX, () -> x.heap(0, 0));
    x.define(0, -1);
    x.field(0, Write.INT);
    x.field(0, 10);
    x.define(1, 0);
    x.field(1, Write.ROWS);
    x.method(0, 0, Write.INT, Write.INT, 10);
    Write.code(x, 0, 0, Write.NEW, 1, Write.STORE, 3, Write.LOAD, 3, Write.LOAD, 1, Write.SET, 32, Write.LOAD, 3,
        Write.LOAD, 0, Write.SET, 33, Write.LOAD, 3, Write.LOAD, 2, Write.ROW, 0, Write.TWICE, 0, Write.STORE, 4,
        Write.SET, 34, Write.LOAD, 4, Write.PUSH, 1, Write.PUSH, -9, Write.TO, 0, Write.LOAD, 3, Write.RETURN, 0);
    Check.due("the second OBJECT", 1, x.run(0, 77, 2, 400, true));
    Check.due("FIELD of the first: an int", 0, x.heap(0, 0));
    Check.due("FIELD of the first: null", -1, x.heap(0, 1));
    outside(x, 0, 2);
    Check.due("FIELD of the second: an int", 77, x.heap(1, 0));
    Check.due("FIELD of the second: an OBJECT", 0, x.heap(1, 1));
    Check.due("FIELD of the second: a ROW", 2, x.heap(1, 2));
    outside(x, 1, 3);
    Check.due("int 0 of the ROW", 0, x.heap(2, 0));
    Check.due("int 1 of the ROW", -9, x.heap(2, 1));
    outside(x, 2, 2);
    Check.thrown("no more are made", Check.INDEX, () -> x.heap(3, 0));
    Check.thrown("none below 0", Check.INDEX, () -> x.heap(-1, 0));
    Check.thrown("far off", Check.INDEX, () -> x.heap(Integer.MAX_VALUE, Integer.MAX_VALUE));
    x.field(1, Write.INT);
    outside(x, 1, 3);
    stays(x);
    emptyOnes();
    mostOfAll();
    references();
    Check.end();
  }

  /** An OBJECT without FIELDS and a ROW of none have nothing to tell. */
  private static void emptyOnes() {
    JavaChain x = Write.ints("PUSH 0; ROW; DROP; PUSH 8; ROW; STORE 3; LOAD 3; PUSH 7; PUSH 5; TO; PUSH 1; RETURN");
    x.run(0, 0, 0, 99, true);
    Check.due("three are made", 3, x.outcome(3));
    outside(x, 0, 0);
    outside(x, 1, 0);
    Check.due("the first int of eight", 0, x.heap(2, 0));
    Check.due("the last int of eight", 5, x.heap(2, 7));
    outside(x, 2, 8);
    Check.thrown("no fourth", Check.INDEX, () -> x.heap(3, 0));
    Check.thrown("before the first", Check.INDEX, () -> x.heap(-1, 7));
  }

  /** 40 OBJECTS of 18 FIELDS: number 39 and FIELD 17 are the last. */
  private static void mostOfAll() {
    JavaChain x = new JavaChain();
    for (int k = 0; k < 6; k++) {
      x.define(k, k - 1);
      for (int f = 0; f < 3; f++) {
        x.field(k, f == 2 ? 15 : Write.INT);
      }
    }
    x.method(5, 0, Write.INT, Write.INT, Write.INT);
    Write.code(x, 5, 0, "NEW 5; STORE 3; LOAD 1; PUSH 1; SUB; STORE 1; LOAD 1; ZERO 9; GOTO 0; LOAD 3; LOAD 2; SET 176"
        + "; LOAD 3; LOAD 3; SET 177; LOAD 3; GET 177; GET 176; RETURN");
    Check.due("the 40th", 6, x.run(5, 39, 6, 400, true));
    Check.due("made", 40, x.outcome(3));
    for (int f = 0; f < 18; f++) {
      Check.due("FIELD " + f + " of the 40th", f == 17 ? 39 : f == 16 ? 6 : f % 3 == 2 ? -1 : 0, x.heap(39, f));
      Check.due("FIELD " + f + " of the first", f % 3 == 2 ? -1 : 0, x.heap(0, f));
    }
    outside(x, 39, 18);
    outside(x, 0, 18);
    Check.thrown("no 41st", Check.INDEX, () -> x.heap(40, 0));
    x.verify();
    Check.due("the 40th, not GUARDED", -6, x.run(5, 39, -6, 400, false));
    Check.due("its FIELD", -6, x.heap(39, 16));
  }

  /** "an int, or as for run": an int -1 and null are told alike, and so are an int and a number. */
  private static void references() {
    JavaChain x = Write.ints("LOAD 0; PUSH -1; SET 0; LOAD 0; LOAD 0; SET 2; PUSH 1; RETURN");
    x.field(0, Write.INT);
    x.field(0, Write.ROWS);
    x.field(0, 10);
    x.run(0, 0, 0, 99, true);
    Check.due("an int", -1, x.heap(0, 0));
    Check.due("null", -1, x.heap(0, 1));
    Check.due("itself", 0, x.heap(0, 2));
  }

  private static void outside(JavaChain x, int n, int i) {
    Check.thrown("behind those of " + n, Check.INDEX, () -> x.heap(n, i));
    Check.thrown("before those of " + n, Check.INDEX, () -> x.heap(n, -1));
    Check.thrown("far behind those of " + n, Check.INDEX, () -> x.heap(n, 18));
  }

  private static void stays(JavaChain x) {
    Check.thrown("BOUNDS", Check.STATE, () -> x.run(0, 55, 1, 400, true));
    Check.due("what was made stays to be seen", 55, x.heap(1, 0));
    Check.due("a ROW of one", 0, x.heap(2, 0));
    outside(x, 2, 1);
    Check.thrown("not VERIFIED", Check.SUPPORT, () -> x.run(0, 1, 2, 400, false));
    Check.due("no RUNNING, no change", 55, x.heap(1, 0));
    Check.thrown("FUEL", Check.STATE, () -> x.run(0, 1, 2, 1, true));
    Check.due("new OBJECTS are empty", 0, x.heap(1, 0));
    Check.due("their FIELDS are null", -1, x.heap(1, 2));
    Check.due("a FIELD put since", 0, x.heap(1, 3));
    Check.thrown("the ROW is gone", Check.INDEX, () -> x.heap(2, 0));
  }
}
