/** Promise 4. */
public final class MethodTest {
  public static void main(String[] args) {
    counts();
    everyType();
    lastNumbers();
    refusesNumbers();
    refusesOtherFaces();
    everyOtherFace();
    farAboveAndBelow();
    endsVerified();
    Check.end();
  }

  private static void counts() {
    JavaChain x = new JavaChain();
    x.define(0, -1);
    Check.due("none", 1, x.method(0, 3, -1, -1, 0));
    Check.due("one", 2, x.method(0, 0, 1, -1, 15));
    Check.due("two", 3, x.method(0, 2, 10, 0, 1));
    Check.due("fourth", 4, x.method(0, 1, 0, 14, 10));
    Check.due("without INSTRUCTIONS", 0, x.about(0, 4));
    x.define(1, 0);
    Check.due("only its own are counted", 1, x.method(1, 0, 1, -1, 15));
  }

  /** "one, two -1 or a TYPE", the RESULT a TYPE: 0, 1, 10 .. 15, of classes that are there or not. */
  private static void everyType() {
    int[] types = {0, 1, 10, 11, 12, 13, 14, 15};
    for (int type : types) {
      JavaChain x = new JavaChain();
      x.define(0, -1);
      Check.due("one " + type, 1, x.method(0, 0, type, -1, 0));
      Check.due("one and two " + type, 2, x.method(0, 1, type, type, 0));
      Check.due("two " + type, 3, x.method(0, 2, 0, type, 0));
      Check.due("result " + type, 4, x.method(0, 3, -1, -1, type));
    }
  }

  private static void lastNumbers() {
    JavaChain x = new JavaChain();
    x.define(5, -1);
    Check.due("class 5, SLOT 3", 1, x.method(5, 3, 15, 15, 15));
    Check.due("without INSTRUCTIONS", 0, x.about(5, 6));
    for (int slot = 0; slot < 3; slot++) {
      Check.due("none for SLOT " + slot, -1, x.about(5, 3 + slot));
    }
  }

  private static void refusesNumbers() {
    JavaChain x = new JavaChain();
    x.define(0, -1);
    Check.thrown("k -1", Check.RANGE, () -> x.method(-1, 0, 0, 0, 0));
    Check.thrown("k 6", Check.RANGE, () -> x.method(6, 0, 0, 0, 0));
    Check.thrown("slot -1", Check.RANGE, () -> x.method(0, -1, 0, 0, 0));
    Check.thrown("slot 4", Check.RANGE, () -> x.method(0, 4, 0, 0, 0));
    for (int type : new int[] {-2, 2, 9, 16}) {
      Check.thrown("one " + type, Check.RANGE, () -> x.method(0, 0, type, -1, 0));
      Check.thrown("two " + type, Check.RANGE, () -> x.method(0, 0, 0, type, 0));
      Check.thrown("result " + type, Check.RANGE, () -> x.method(0, 0, 0, 0, type));
    }
    Check.thrown("result -1", Check.RANGE, () -> x.method(0, 0, 0, 0, -1));
    Check.thrown("two without one", Check.RANGE, () -> x.method(0, 0, -1, 0, 0));
    Check.thrown("two without one, before the class", Check.RANGE, () -> x.method(1, 0, -1, 0, 0));
    Check.thrown("class not there", Check.NOT_THERE, () -> x.method(1, 0, 0, 0, 0));
    Check.due("none yet", -1, x.about(0, 3));
  }

  private static void refusesOtherFaces() {
    JavaChain x = new JavaChain();
    x.define(0, -1);
    x.define(1, 0);
    x.define(2, 1);
    x.define(3, 0);
    x.method(1, 0, 0, -1, 0);
    Check.thrown("its own", Check.STATE, () -> x.method(1, 0, 0, -1, 0));
    Check.thrown("other one above", Check.STATE, () -> x.method(2, 0, 1, -1, 0));
    Check.thrown("other count above", Check.STATE, () -> x.method(2, 0, -1, -1, 0));
    Check.thrown("other two above", Check.STATE, () -> x.method(2, 0, 0, 0, 0));
    Check.thrown("other RESULT below", Check.STATE, () -> x.method(0, 0, 0, -1, 1));
    Check.due("beside it, other ones", 1, x.method(3, 0, 1, 1, 1));
    Check.thrown("now no face suits both below", Check.STATE, () -> x.method(0, 0, 0, -1, 0));
    Check.thrown("nor this", Check.STATE, () -> x.method(0, 0, 1, 1, 1));
    Check.due("another SLOT", 1, x.method(0, 1, 1, 1, 1));
    Check.thrown("far above", Check.STATE, () -> x.method(2, 1, 1, 1, 0));
    Check.due("the same", 1, x.method(2, 0, 0, -1, 0));
    Check.due("the same, far above", 2, x.method(2, 1, 1, 1, 1));
  }

  /** Two ones above or below one another have all of their PARAMETERS and the RESULT alike, or are refused. */
  private static void everyOtherFace() {
    int[][] faces = {{-1, -1, 0}, {-1, -1, 1}, {0, -1, 0}, {0, -1, 1}, {1, -1, 0}, {0, 0, 0}, {0, 1, 0}, {1, 0, 0},
        {0, 0, 10}, {10, 0, 0}, {11, 0, 0}};
    for (int[] high : faces) {
      for (int[] low : faces) {
        faces(0, high, 3, low);
        faces(3, low, 0, high);
      }
    }
  }

  private static void faces(int first, int[] one, int second, int[] other) {
    JavaChain x = new JavaChain();
    x.define(0, -1);
    x.define(3, 0);
    x.method(first, 2, one[0], one[1], one[2]);
    if (one == other) {
      Check.due("the same", 1, x.method(second, 2, other[0], other[1], other[2]));
    } else {
      Check.thrown("another one", Check.STATE, () -> x.method(second, 2, other[0], other[1], other[2]));
      Check.due("it is not there", -1, x.about(second, 5));
    }
    Check.due("another SLOT", one == other ? 2 : 1, x.method(second, 1, other[0], other[1], other[2]));
  }

  /** "above or below": however far, and not beside. */
  private static void farAboveAndBelow() {
    for (int i = 0; i < 6; i++) {
      for (int j = 0; j < 6; j++) {
        int other = j;
        JavaChain chain = Write.chain();
        chain.method(i, 0, 0, -1, 0);
        Check.thrown("in a chain " + i + " " + j, Check.STATE, () -> chain.method(other, 0, 1, -1, 0));
        JavaChain family = Write.family();
        family.method(i, 0, 0, -1, 0);
        boolean related = "00 01 02 03 04 11 12 13 22 33 44 55".contains("" + Math.min(i, j) + Math.max(i, j));
        if (related) {
          Check.thrown("related " + i + " " + j, Check.STATE, () -> family.method(other, 0, 1, -1, 0));
        } else {
          Check.due("beside " + i + " " + j, 1, family.method(j, 0, 1, -1, 0));
        }
      }
    }
  }

  private static void endsVerified() {
    JavaChain x = Write.ints(Write.PUSH, 7, Write.RETURN, 0);
    x.verify();
    Check.thrown("a method that throws", Check.STATE, () -> x.method(0, 0, 0, 0, 0));
    Check.due("changes nothing", 7, x.run(0, 0, 0, 9, false));
    x.method(0, 1, 0, 0, 0);
    Check.thrown("a method ends VERIFIED", Check.SUPPORT, () -> x.run(0, 0, 0, 9, false));
  }
}
