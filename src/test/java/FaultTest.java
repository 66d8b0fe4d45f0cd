/** Promise 9. */
public final class FaultTest {
  public static void main(String[] args) {
    JavaChain x = new JavaChain();
    Check.due("no VERIFYING: WHERE", -1, x.fault(false));
    Check.due("no VERIFYING: WHY", -1, x.fault(true));
    x.define(5, -1);
    x.method(5, 3, Write.NONE, Write.NONE, Write.INT);
    for (int i = 0; i < 11; i++) {
      Write.code(x, 5, 3, Write.PUSH, i, Write.DROP, 0);
    }
    Write.code(x, 5, 3, Write.PUSH, 1, Write.ADD, 0);
    Check.thrown("none behind the last", Check.SUPPORT, x::verify);
    Check.due("class, SLOT and INSTRUCTION", 5323, x.fault(false));
    Check.due("the number", 4, x.fault(true));
    x.define(0, -1);
    Check.due("it stays: WHERE", 5323, x.fault(false));
    Check.due("it stays: WHY", 4, x.fault(true));

    JavaChain y = new JavaChain();
    y.define(2, -1);
    y.method(2, 1, Write.NONE, Write.NONE, Write.INT);
    Write.code(y, 2, 1, Write.PUSH, 1, Write.PUSH, 2);
    Check.thrown("a FAULT", Check.SUPPORT, y::verify);
    Check.due("WHERE", 2101, y.fault(false));
    y.code(2, 1, Write.RETURN, 0);
    y.verify();
    Check.due("none any more: WHERE", -1, y.fault(false));
    Check.due("none any more: WHY", -1, y.fault(true));
    y.code(2, 1, Write.RETURN, 0);
    Check.thrown("a FAULT when GUARDED", Check.RANGE, () -> y.run(2, 0, 0, 0, true));
    Check.due("is none of VERIFYING", -1, y.fault(true));
    everywhere();
    latest();
    Check.end();
  }

  /** "1000 times the class plus 100 times the SLOT plus the INSTRUCTION": 0 is the first, 5323 the last. */
  private static void everywhere() {
    for (int k = 0; k < 6; k++) {
      for (int slot = 0; slot < 4; slot++) {
        for (int pc = 0; pc < 24; pc++) {
          JavaChain x = new JavaChain();
          x.define(k, -1);
          x.method(k, slot, Write.NONE, Write.NONE, Write.INT);
          for (int i = 0; i < pc; i++) {
            x.code(k, slot, Write.GOTO, i + 1);
          }
          x.code(k, slot, Write.RETURN, 0);
          Check.fault("class " + k + " SLOT " + slot + " INSTRUCTION " + pc, 1, 1000 * k + 100 * slot + pc, x);
        }
      }
    }
  }

  /** "Of the latest VERIFYING": no other call changes what is told. */
  private static void latest() {
    JavaChain x = Write.ints("PUSH 1; ADD; RETURN");
    Check.fault("the first", 1, 1, x);
    x.define(1, 0);
    x.field(1, Write.INT);
    x.method(1, 1, Write.NONE, Write.NONE, 15);
    x.code(1, 1, Write.EMPTY, 0);
    x.catcher(1, 1, 0, 0, 0);
    Check.ends("a FAULT when GUARDED", x, 99, true, 8, 1, 1, 1);
    Check.thrown("not VERIFIED", Check.SUPPORT, () -> x.run(0, 0, 0, 9, false));
    Check.due("still the first: WHERE", 1, x.fault(false));
    Check.due("still the first: WHY", 1, x.fault(true));
    JavaChain y = Write.ints("PUSH 1; RETURN");
    Check.faultless("none", y);
    y.method(0, 3, Write.NONE, Write.NONE, 15);
    Check.due("still none", -1, y.fault(false));
    Check.fault("now there is one", 5, 300, y);
    y.define(5, -1);
    Check.fault("then another one", 4, 300, y);
    Write.code(y, 0, 3, "EMPTY; RETURN");
    Check.faultless("none again", y);
  }
}
