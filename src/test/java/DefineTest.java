/** Promise 2. */
public final class DefineTest {
  public static void main(String[] args) {
    counts();
    everyBase();
    full();
    refuses();
    endsVerified();
    Check.end();
  }

  private static void counts() {
    JavaChain x = new JavaChain();
    Check.due("define(2, -1)", 1, x.define(2, -1));
    Check.due("define(5, 2)", 2, x.define(5, 2));
    Check.due("define(0, -1)", 3, x.define(0, -1));
    Check.due("define(1, 0)", 4, x.define(1, 0));
    Check.due("define(4, 1)", 5, x.define(4, 1));
    Check.due("define(3, 2)", 6, x.define(3, 2));
    Check.due("SUPER of 5", 2, x.about(5, 1));
    Check.due("SUPER of 2", -1, x.about(2, 1));
  }

  /** "the SUPER, base, is neither -1 nor a lesser number that is there": for each k and base, with and without it. */
  private static void everyBase() {
    for (int k = 0; k < 6; k++) {
      for (int base = -1; base < 6; base++) {
        int of = base;
        int number = k;
        JavaChain alone = new JavaChain();
        JavaChain both = new JavaChain();
        if (base != -1 && base != k) {
          both.define(base, -1);
        }
        if (base == -1) {
          Check.due("class " + k + " without a SUPER", 1, alone.define(k, base));
        } else {
          Check.thrown("class " + k + ", SUPER " + base + " is not there", Check.STATE, () -> alone.define(number, of));
        }
        if (base == -1 || base < k) {
          Check.due("class " + k + ", SUPER " + base, base == -1 ? 1 : 2, both.define(k, base));
          Check.due("it is there", 1, both.about(k, 0));
          Check.due("its SUPER", base, both.about(k, 1));
        } else {
          Check.thrown("class " + k + ", SUPER " + base, Check.STATE, () -> both.define(number, of));
          Check.due("it is not there", 0, both.about(k, 0));
        }
      }
    }
  }

  private static void full() {
    JavaChain x = Write.chain();
    for (int i = 0; i < 6; i++) {
      int k = i;
      Check.due("its SUPER", k - 1, x.about(k, 1));
      Check.thrown("all six are there", Check.STATE, () -> x.define(k, -1));
      Check.thrown("all six are there, the same SUPER", Check.STATE, () -> x.define(k, k - 1));
    }
  }

  private static void refuses() {
    JavaChain x = new JavaChain();
    x.define(2, -1);
    Check.thrown("k -1", Check.RANGE, () -> x.define(-1, -1));
    Check.thrown("k 6", Check.RANGE, () -> x.define(6, -1));
    Check.thrown("base -2", Check.RANGE, () -> x.define(3, -2));
    Check.thrown("base 6", Check.RANGE, () -> x.define(3, 6));
    Check.thrown("base 6 of a class that is there", Check.RANGE, () -> x.define(2, 6));
    Check.thrown("there already", Check.STATE, () -> x.define(2, -1));
    Check.thrown("base not there", Check.STATE, () -> x.define(3, 1));
    Check.thrown("base greater", Check.STATE, () -> x.define(1, 2));
    Check.thrown("base itself", Check.STATE, () -> x.define(3, 3));
    Check.due("still one class", 2, x.define(3, 2));
  }

  private static void endsVerified() {
    JavaChain x = Write.ints(Write.PUSH, 7, Write.RETURN, 0);
    x.verify();
    Check.thrown("a define that throws", Check.STATE, () -> x.define(0, -1));
    Check.due("changes nothing", 7, x.run(0, 0, 0, 9, false));
    x.define(1, -1);
    Check.thrown("a define ends VERIFIED", Check.SUPPORT, () -> x.run(0, 0, 0, 9, false));
  }
}
