/** Promise 12. */
public final class HeapTest {
  public static void main(String[] args) {
    JavaChain x = new JavaChain();
    Check.thrown("no RUNNING", Check.INDEX, () -> x.heap(0, 0));
    x.define(0, -1);
    x.field(0, Write.INT);
    x.field(0, 10);
    x.define(1, 0);
    x.field(1, Write.ROWS);
    x.method(0, 0, Write.INT, Write.INT, 10);
    Write.code(x, 0, 0, Write.NEW, 1, Write.STORE, 3, Write.LOAD, 3, Write.LOAD, 1, Write.SET, 32, Write.LOAD, 3,
        Write.LOAD, 0, Write.SET, 33, Write.LOAD, 3, Write.LOAD, 2, Write.ROW, 0, Write.TWICE, 0, Write.STORE, 4,
        Write.SET, 34, Write.LOAD, 4, Write.PUSH, 1, Write.PUSH, -9, Write.TO, 0, Write.LOAD, 3, Write.RETURN, 0);
    Check.due("the second OBJECT", 1, x.run(0, 77, 2, 400, true));
    Check.due("FIELD of the first: an int", 0, x.heap(0, 0));
    Check.due("FIELD of the first: null", -1, x.heap(0, 1));
    outside(x, 0, 2);
    Check.due("FIELD of the second: an int", 77, x.heap(1, 0));
    Check.due("FIELD of the second: an OBJECT", 0, x.heap(1, 1));
    Check.due("FIELD of the second: a ROW", 2, x.heap(1, 2));
    outside(x, 1, 3);
    Check.due("int 0 of the ROW", 0, x.heap(2, 0));
    Check.due("int 1 of the ROW", -9, x.heap(2, 1));
    outside(x, 2, 2);
    Check.thrown("no more are made", Check.INDEX, () -> x.heap(3, 0));
    Check.thrown("none below 0", Check.INDEX, () -> x.heap(-1, 0));
    Check.thrown("far off", Check.INDEX, () -> x.heap(Integer.MAX_VALUE, Integer.MAX_VALUE));
    x.field(1, Write.INT);
    outside(x, 1, 3);
    stays(x);
    Check.end();
  }

  private static void outside(JavaChain x, int n, int i) {
    Check.thrown("behind those of " + n, Check.INDEX, () -> x.heap(n, i));
    Check.thrown("before those of " + n, Check.INDEX, () -> x.heap(n, -1));
    Check.thrown("far behind those of " + n, Check.INDEX, () -> x.heap(n, 18));
  }

  private static void stays(JavaChain x) {
    Check.thrown("BOUNDS", Check.STATE, () -> x.run(0, 55, 1, 400, true));
    Check.due("what was made stays to be seen", 55, x.heap(1, 0));
    Check.due("a ROW of one", 0, x.heap(2, 0));
    outside(x, 2, 1);
    Check.thrown("not VERIFIED", Check.SUPPORT, () -> x.run(0, 1, 2, 400, false));
    Check.due("no RUNNING, no change", 55, x.heap(1, 0));
    Check.thrown("FUEL", Check.STATE, () -> x.run(0, 1, 2, 1, true));
    Check.due("new OBJECTS are empty", 0, x.heap(1, 0));
    Check.due("their FIELDS are null", -1, x.heap(1, 2));
    Check.due("a FIELD put since", 0, x.heap(1, 3));
    Check.thrown("the ROW is gone", Check.INDEX, () -> x.heap(2, 0));
  }
}
