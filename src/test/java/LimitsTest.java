/** "An object is used for at most 512 calls": the last of them answers as the first. */
public final class LimitsTest {
  private static final int CALLS = 512;

  public static void main(String[] args) {
    runsAndVerifyings();
    fullest();
    refusals();
    Check.end();
  }

  private static void runsAndVerifyings() {
    JavaChain x = Write.ints("NEW 0; DROP; LOAD 1; PUSH 1; SUB; STORE 1; LOAD 1; ZERO 9; GOTO 0; LOAD 2; RETURN");
    int calls = 13;
    while (calls < CALLS - 1) {
      Check.due("VERIFYING by call " + calls, 1, x.verify());
      Check.due("RUNNING by call " + calls, calls, x.run(0, 39, calls, 400, false));
      calls += 2;
    }
    Check.due("the last call", 40, x.outcome(3));
  }

  /** 6 classes, 18 FIELDS, 24 METHODS of 18 INSTRUCTIONS, and 31 calls behind VERIFYING. */
  private static void fullest() {
    JavaChain x = new JavaChain();
    for (int k = 0; k < 6; k++) {
      Check.due("class " + k, k + 1, x.define(k, k - 1));
      for (int f = 0; f < 3; f++) {
        Check.due("FIELD", 3 * k + f, x.field(k, f % 2));
      }
      for (int slot = 0; slot < 4; slot++) {
        Check.due("METHOD", slot + 1, x.method(k, slot, Write.INT, Write.INT, Write.INT));
        for (int i = 0; i < 16; i++) {
          Check.due("INSTRUCTION", i, x.code(k, slot, Write.GOTO, i + 1));
        }
        x.code(k, slot, Write.LOAD, 1);
        x.code(k, slot, Write.RETURN, 0);
      }
    }
    Check.due("METHODS, by call 481", 24, x.verify());
    for (int k = 0; k < 6; k++) {
      Check.due("class " + k, -k, x.run(k, -k, 0, 18, false));
      Check.due("INSTRUCTIONS", 18, x.outcome(2));
    }
    for (int f = 0; f < 18; f++) {
      Check.due("FIELD " + f, f % 3 == 1 ? -1 : 0, x.heap(0, f));
    }
    Check.due("call 512", 15, x.map(5, 3, 17, 0));
  }

  private static void refusals() {
    JavaChain x = Write.ints("PUSH 8; RETURN");
    x.verify();
    for (int calls = 5; calls < CALLS - 1; calls++) {
      Check.thrown("a class that is there", Check.STATE, () -> x.define(0, -1));
    }
    Check.due("the last call", 8, x.run(0, 0, 0, 2, false));
  }
}
