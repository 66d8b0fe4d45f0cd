/** Promise 3. */
public final class FieldTest {
  public static void main(String[] args) {
    numbers();
    supersGetNone();
    refuses();
    endsVerified();
    Check.end();
  }

  private static void numbers() {
    JavaChain x = new JavaChain();
    x.define(0, -1);
    Check.due("first", 0, x.field(0, 0));
    Check.due("second", 1, x.field(0, 1));
    Check.due("third, of a class that is not there", 2, x.field(0, 15));
    Check.thrown("a fourth", Check.STATE, () -> x.field(0, 0));
    x.define(1, 0);
    Check.due("behind the SUPER's", 3, x.field(1, 10));
    x.define(3, 1);
    Check.due("behind both SUPERS'", 4, x.field(3, 0));
    x.define(4, -1);
    Check.due("without a SUPER", 0, x.field(4, 0));
    for (int k = 0; k < 3; k++) {
      int base = k;
      Check.thrown("of a SUPER or not there " + base, base == 2 ? Check.NOT_THERE : Check.STATE,
          () -> x.field(base, 0));
    }
    Check.due("in all", 5, x.about(3, 2));
  }

  /** "or is a SUPER": of any class below, with room for FIELDS or not. */
  private static void supersGetNone() {
    for (int k = 0; k < 5; k++) {
      for (int low = k + 1; low < 6; low++) {
        for (int fields = 0; fields < 3; fields++) {
          JavaChain x = new JavaChain();
          x.define(k, -1);
          for (int f = 0; f < fields; f++) {
            x.field(k, 0);
          }
          int number = k;
          Check.due("not yet a SUPER", fields, x.field(k, 0));
          JavaChain y = new JavaChain();
          y.define(k, -1);
          for (int f = 0; f < fields; f++) {
            y.field(k, 0);
          }
          y.define(low, k);
          Check.thrown(k + " is the SUPER of " + low, Check.STATE, () -> y.field(number, 0));
          Check.due("the one below has room", fields, y.field(low, 0));
          Check.due("FIELDS of the SUPER", fields, y.about(k, 2));
        }
      }
    }
    JavaChain beside = new JavaChain();
    beside.define(0, -1);
    beside.define(1, -1);
    beside.define(2, 1);
    Check.due("a class beside is no SUPER", 0, beside.field(0, 0));
  }

  private static void refuses() {
    JavaChain x = new JavaChain();
    x.define(0, -1);
    for (int type : new int[] {-1, 2, 3, 9, 16, Integer.MIN_VALUE, Integer.MAX_VALUE}) {
      Check.thrown("type " + type, Check.RANGE, () -> x.field(0, type));
      Check.thrown("type " + type + " before the class", Check.RANGE, () -> x.field(1, type));
    }
    for (int type : new int[] {0, 1, 10, 11, 12, 13, 14, 15}) {
      JavaChain fresh = new JavaChain();
      fresh.define(0, -1);
      Check.due("type " + type, 0, fresh.field(0, type));
    }
    Check.thrown("k -1", Check.RANGE, () -> x.field(-1, 0));
    Check.thrown("k 6", Check.RANGE, () -> x.field(6, 0));
    Check.thrown("class not there", Check.NOT_THERE, () -> x.field(5, 0));
    Check.due("no FIELD yet", 0, x.about(0, 2));
  }

  private static void endsVerified() {
    JavaChain x = Write.ints(Write.PUSH, 7, Write.RETURN, 0);
    x.verify();
    Check.thrown("a field that throws", Check.RANGE, () -> x.field(0, 2));
    Check.due("changes nothing", 7, x.run(0, 0, 0, 9, false));
    x.field(0, 0);
    Check.thrown("a field ends VERIFIED", Check.SUPPORT, () -> x.run(0, 0, 0, 9, false));
  }
}
