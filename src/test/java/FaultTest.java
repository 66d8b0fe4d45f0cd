/** Promise 9. */
public final class FaultTest {
  public static void main(String[] args) {
    JavaChain x = new JavaChain();
    Check.due("no VERIFYING: WHERE", -1, x.fault(false));
    Check.due("no VERIFYING: WHY", -1, x.fault(true));
    x.define(5, -1);
    x.method(5, 3, Write.NONE, Write.NONE, Write.INT);
    for (int i = 0; i < 11; i++) {
      Write.code(x, 5, 3, Write.PUSH, i, Write.DROP, 0);
    }
    Write.code(x, 5, 3, Write.PUSH, 1, Write.ADD, 0);
    Check.thrown("none behind the last", Check.SUPPORT, x::verify);
    Check.due("class, SLOT and INSTRUCTION", 5323, x.fault(false));
    Check.due("the number", 4, x.fault(true));
    x.define(0, -1);
    Check.due("it stays: WHERE", 5323, x.fault(false));
    Check.due("it stays: WHY", 4, x.fault(true));

    JavaChain y = new JavaChain();
    y.define(2, -1);
    y.method(2, 1, Write.NONE, Write.NONE, Write.INT);
    Write.code(y, 2, 1, Write.PUSH, 1, Write.PUSH, 2);
    Check.thrown("a FAULT", Check.SUPPORT, y::verify);
    Check.due("WHERE", 2101, y.fault(false));
    y.code(2, 1, Write.RETURN, 0);
    y.verify();
    Check.due("none any more: WHERE", -1, y.fault(false));
    Check.due("none any more: WHY", -1, y.fault(true));
    y.code(2, 1, Write.RETURN, 0);
    Check.thrown("a FAULT when GUARDED", Check.RANGE, () -> y.run(2, 0, 0, 0, true));
    Check.due("is none of VERIFYING", -1, y.fault(true));
    Check.end();
  }
}
