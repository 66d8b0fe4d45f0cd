/** Promise 8. */
public final class MapTest {
  public static void main(String[] args) {
    refuses();
    everyHeight();
    lastOfAll();
    forgetsEarlierOnes();
    tells();
    numbers();
    jumps();
    joins();
    catchers();
    looksAgain();
    latest();
    afterFaults();
    meetingKeepsLocals();
    meetingKeepsPlacesBelow();
    meetingKeepsAtCatcher();
    meetingKeepsAtHeights();
    meetingAfterOthers();
    Check.end();
  }

  /** The LOCALS, the height and the STACK of one MAP. */
  private static void due(String what, JavaChain x, int k, int slot, int pc, int... want) {
    for (int i = 0; i < 12; i++) {
      Check.due(what + ", map(" + k + ", " + slot + ", " + pc + ", " + i + ")", want[i], x.map(k, slot, pc, i));
    }
  }

  private static void none(String what, JavaChain x, int k, int slot, int pc) {
    due(what, x, k, slot, pc, -2, -2, -2, -2, -2, -2, -2, -2, -2, -2, -2, -2);
  }

  private static void refuses() {
    JavaChain x = Write.ints(Write.PUSH, 1, Write.RETURN, 0);
    x.define(1, 0);
    x.verify();
    Check.thrown("k -1", Check.RANGE, () -> x.map(-1, 0, 0, 0));
    Check.thrown("k 6", Check.RANGE, () -> x.map(6, 0, 0, 0));
    Check.thrown("slot -1", Check.RANGE, () -> x.map(0, -1, 0, 0));
    Check.thrown("slot 4", Check.RANGE, () -> x.map(0, 4, 0, 0));
    Check.thrown("pc -1", Check.RANGE, () -> x.map(0, 0, -1, 0));
    Check.thrown("pc 24", Check.RANGE, () -> x.map(0, 0, 24, 0));
    Check.thrown("i -1", Check.RANGE, () -> x.map(0, 0, 0, -1));
    Check.thrown("i 12", Check.RANGE, () -> x.map(0, 0, 0, 12));
    Check.thrown("i before class", Check.RANGE, () -> x.map(5, 0, 0, 12));
    Check.thrown("class not there", Check.NOT_THERE, () -> x.map(5, 0, 0, 0));
    Check.thrown("no METHOD", Check.NOT_THERE, () -> x.map(0, 1, 0, 0));
    Check.thrown("not of its own", Check.NOT_THERE, () -> x.map(1, 0, 0, 0));
    none("INSTRUCTION that is not there", x, 0, 0, 2);
    none("the last number", x, 0, 0, 23);
  }

  /** "6 the STACK's height, 7 + j the TYPE of place j from below, -1 behind" */
  private static void everyHeight() {
    JavaChain x = Write.single(Write.ROWS, Write.INT, Write.INT,
        "LOAD 0; LOAD 1; EMPTY; NEW 3; LOAD 2; DROP; DROP; DROP; DROP; DROP; PUSH 1; RETURN");
    x.define(3, 0);
    x.verify();
    int[] stack = {10, 1, 2, 13, 0};
    for (int pc = 0; pc < 11; pc++) {
      int height = pc < 5 ? pc : 10 - pc;
      Check.due("height at " + pc, height, x.map(0, 0, pc, 6));
      for (int j = 0; j < 5; j++) {
        Check.due("place " + j + " at " + pc, j < height ? stack[j] : -1, x.map(0, 0, pc, 7 + j));
      }
    }
  }

  /** Class 5, SLOT 3, pc 23, i 11. */
  private static void lastOfAll() {
    JavaChain x = new JavaChain();
    x.define(5, -1);
    Write.method(x, 5, 3, "GOTO 1; " + "PUSH 1; DROP; ".repeat(8) + "PUSH 1; PUSH 1; PUSH 1; NEW 5; PUSH 1"
        + "; GOTO 23; RETURN");
    Check.due("24 INSTRUCTIONS", 24, x.about(5, 6));
    x.verify();
    due("the last MAP", x, 5, 3, 23, 15, -1, -1, -1, -1, -1, 5, 0, 0, 0, 15, 0);
  }

  /** "of the MAP of the latest VERIFYING, of a METHOD that was looked at" */
  private static void forgetsEarlierOnes() {
    JavaChain y = Write.family();
    for (int k = 0; k < 6; k++) {
      for (int slot = 0; slot < 4; slot++) {
        Write.method(y, k, slot, "PUSH 1; STORE 3; PUSH 1; RETURN");
      }
    }
    y.verify();
    Check.due("the first", 10, y.map(0, 0, 0, 0));
    Check.due("the last", 15, y.map(5, 3, 3, 0));
    y.catcher(2, 1, Write.span(3, 4), 23, Write.ALL);
    Check.due("a CATCHER does not change the MAPS", 1, y.map(5, 3, 3, 6));
    Check.thrown("its TARGET is not there", Check.SUPPORT, y::verify);
    Check.due("one before", 1, y.map(2, 0, 3, 6));
    Check.due("the one with the FAULT, at it", 1, y.map(2, 1, 3, 6));
    for (int[] behind : new int[][] {{2, 2}, {2, 3}, {3, 0}, {5, 3}}) {
      none("not looked at by the latest", y, behind[0], behind[1], 0);
      none("not looked at by the latest", y, behind[0], behind[1], 3);
    }
    JavaChain z = Write.ints("LOAD 1; ZERO 4; NEW 4; STORE 3; PUSH 1; RETURN");
    Check.thrown("class 4 is not there", Check.SUPPORT, z::verify);
    due("what x got", z, 0, 0, 4, 10, 0, 0, -1, -1, -1, 0, -1, -1, -1, -1, -1);
    z.field(0, 14);
    Check.thrown("nor for a FIELD", Check.SUPPORT, z::verify);
    none("nothing is left of the one before", z, 0, 0, 0);
    none("nor where x leads", z, 0, 0, 4);
  }

  private static void tells() {
    JavaChain x = new JavaChain();
    x.define(0, -1);
    x.define(2, 0);
    x.field(2, 15);
    x.define(5, -1);
    x.method(2, 3, Write.ROWS, 10, 15);
    none("before any VERIFYING", x, 2, 3, 0);
    Write.code(x, 2, 3, Write.LOAD, 2, Write.EMPTY, 0, Write.STORE, 5, Write.LOAD, 1, Write.SIZE, 0,
        Write.TWICE, 0, Write.ROW, 0, Write.NEW, 5, Write.DROP, 0, Write.LOAD, 0, Write.GET, 64, Write.RETURN, 0,
        Write.PUSH, 0);
    x.verify();
    due("first", x, 2, 3, 0, 12, 1, 10, -1, -1, -1, 0, -1, -1, -1, -1, -1);
    due("behind LOAD", x, 2, 3, 1, 12, 1, 10, -1, -1, -1, 1, 10, -1, -1, -1, -1);
    due("behind EMPTY", x, 2, 3, 2, 12, 1, 10, -1, -1, -1, 2, 10, 2, -1, -1, -1);
    due("behind STORE", x, 2, 3, 3, 12, 1, 10, -1, -1, 2, 1, 10, -1, -1, -1, -1);
    due("behind SIZE", x, 2, 3, 5, 12, 1, 10, -1, -1, 2, 2, 10, 0, -1, -1, -1);
    due("behind TWICE", x, 2, 3, 6, 12, 1, 10, -1, -1, 2, 3, 10, 0, 0, -1, -1);
    due("behind ROW", x, 2, 3, 7, 12, 1, 10, -1, -1, 2, 3, 10, 0, 1, -1, -1);
    due("behind NEW", x, 2, 3, 8, 12, 1, 10, -1, -1, 2, 4, 10, 0, 1, 15, -1);
    due("behind DROP", x, 2, 3, 9, 12, 1, 10, -1, -1, 2, 3, 10, 0, 1, -1, -1);
    due("behind GET", x, 2, 3, 11, 12, 1, 10, -1, -1, 2, 4, 10, 0, 1, 15, -1);
    none("never reached", x, 2, 3, 12);
    others();
  }

  private static void others() {
    JavaChain x = Write.single(Write.ROWS, Write.INT, 10, Write.LOAD, 0, Write.CAST, 1, Write.EMPTY, 0,
        Write.CAST, 1, Write.SAME, 0, Write.LOAD, 1, Write.LOAD, 2, Write.AT, 0, Write.ADD, 0, Write.STORE, 3,
        Write.LOAD, 0, Write.EMPTY, 0, Write.PUSH, 1, Write.CALL, 0, Write.STORE, 1, Write.LOAD, 0,
        Write.LOAD, 3, Write.SET, 0, Write.LOAD, 0, Write.RETURN, 0);
    x.field(0, Write.INT);
    x.define(1, 0);
    x.verify();
    due("behind CAST", x, 0, 0, 2, 10, 1, 0, -1, -1, -1, 1, 11, -1, -1, -1, -1);
    due("behind CAST of null", x, 0, 0, 4, 10, 1, 0, -1, -1, -1, 2, 11, 11, -1, -1, -1);
    due("behind SAME", x, 0, 0, 5, 10, 1, 0, -1, -1, -1, 1, 0, -1, -1, -1, -1);
    due("behind AT", x, 0, 0, 8, 10, 1, 0, -1, -1, -1, 2, 0, 0, -1, -1, -1);
    due("behind ADD", x, 0, 0, 9, 10, 1, 0, -1, -1, -1, 1, 0, -1, -1, -1, -1);
    due("behind CALL", x, 0, 0, 14, 10, 1, 0, 0, -1, -1, 1, 10, -1, -1, -1, -1);
    due("behind SET", x, 0, 0, 18, 10, 10, 0, 0, -1, -1, 0, -1, -1, -1, -1, -1);
  }

  private static void numbers() {
    for (int operation = Write.ADD; operation <= Write.DIV; operation++) {
      JavaChain x = Write.ints(Write.LOAD, 1, Write.LOAD, 2, operation, 0, Write.RETURN, 0);
      x.verify();
      due("behind " + operation, x, 0, 0, 3, 10, 0, 0, -1, -1, -1, 1, 0, -1, -1, -1, -1);
    }
  }

  private static void jumps() {
    JavaChain x = Write.ints(Write.PUSH, 1, Write.PUSH, 2, Write.PUSH, 3, Write.LESS, 5, Write.GOTO, 5,
        Write.LOAD, 0, Write.ISNULL, 8, Write.LOAD, 1, Write.ZERO, 8, Write.RETURN, 0);
    Check.thrown("ISNULL and ZERO leave different heights", Check.SUPPORT, x::verify);
    due("behind LESS", x, 0, 0, 4, 10, 0, 0, -1, -1, -1, 1, 0, -1, -1, -1, -1);
    due("where LESS leads", x, 0, 0, 5, 10, 0, 0, -1, -1, -1, 1, 0, -1, -1, -1, -1);
    due("behind ISNULL", x, 0, 0, 7, 10, 0, 0, -1, -1, -1, 1, 0, -1, -1, -1, -1);
    due("where ISNULL leads", x, 0, 0, 8, 10, 0, 0, -1, -1, -1, 1, 0, -1, -1, -1, -1);
  }

  private static void joins() {
    JavaChain x = new JavaChain();
    x.define(0, -1);
    x.define(1, 0);
    x.define(2, 0);
    x.method(0, 0, Write.INT, Write.NONE, Write.INT);
    Write.code(x, 0, 0, Write.NEW, 1, Write.STORE, 2, Write.PUSH, 1, Write.STORE, 3, Write.EMPTY, 0, Write.STORE, 4,
        Write.NEW, 1, Write.LOAD, 1, Write.ZERO, 17, Write.DROP, 0, Write.NEW, 2, Write.STORE, 2, Write.EMPTY, 0,
        Write.STORE, 3, Write.PUSH, 1, Write.ROW, 0, Write.STORE, 4, Write.PUSH, 0, Write.RETURN, 0);
    Check.thrown("heights", Check.SUPPORT, x::verify);
    Check.due("where", 16, x.fault(false));
    JavaChain y = new JavaChain();
    y.define(0, -1);
    y.define(1, 0);
    y.define(2, 0);
    y.method(0, 0, Write.INT, Write.NONE, Write.INT);
    Write.code(y, 0, 0, Write.NEW, 1, Write.STORE, 2, Write.PUSH, 1, Write.STORE, 3, Write.EMPTY, 0, Write.STORE, 4,
        Write.NEW, 1, Write.LOAD, 1, Write.ZERO, 18, Write.STORE, 5, Write.NEW, 2, Write.STORE, 2, Write.EMPTY, 0,
        Write.STORE, 3, Write.PUSH, 1, Write.ROW, 0, Write.STORE, 4, Write.NEW, 2, Write.DROP, 0, Write.PUSH, 0,
        Write.RETURN, 0);
    y.verify();
    due("where they meet", y, 0, 0, 18, 10, 0, 10, -1, 1, -1, 1, 10, -1, -1, -1, -1);
    due("behind the meeting", y, 0, 0, 20, 10, 0, 10, -1, 1, -1, 1, 0, -1, -1, -1, -1);
  }

  private static void catchers() {
    JavaChain x = Write.ints(Write.PUSH, 1, Write.PUSH, 2, Write.STORE, 3, Write.RETURN, 0,
        Write.THROW, 0, Write.PUSH, 9, Write.RETURN, 0);
    x.define(4, -1);
    x.catcher(0, 0, Write.span(1, 3), 4, 4);
    x.catcher(0, 0, Write.span(3, 4), 5, Write.ALL);
    x.verify();
    due("LOCALS as they were before", x, 0, 0, 4, 10, 0, 0, -1, -1, -1, 1, 14, -1, -1, -1, -1);
    due("ALL has nothing on the STACK", x, 0, 0, 5, 10, 0, 0, 0, -1, -1, 0, -1, -1, -1, -1, -1);
    due("around RETURN", x, 0, 0, 3, 10, 0, 0, 0, -1, -1, 1, 0, -1, -1, -1, -1);
  }

  private static void looksAgain() {
    JavaChain x = Write.ints(Write.PUSH, 1, Write.STORE, 3, Write.LOAD, 1, Write.ZERO, 7, Write.EMPTY, 0,
        Write.STORE, 3, Write.GOTO, 2, Write.PUSH, 0, Write.RETURN, 0);
    x.verify();
    due("a loop", x, 0, 0, 2, 10, 0, 0, -1, -1, -1, 0, -1, -1, -1, -1, -1);
    due("behind it, once more", x, 0, 0, 7, 10, 0, 0, -1, -1, -1, 0, -1, -1, -1, -1, -1);
    due("in it", x, 0, 0, 6, 10, 0, 0, 2, -1, -1, 0, -1, -1, -1, -1, -1);
    JavaChain self = Write.ints(Write.LOAD, 0, Write.STORE, 1, Write.PUSH, 0, Write.RETURN, 0);
    self.catcher(0, 0, Write.span(0, 2), 0, Write.ALL);
    self.verify();
    due("its own TARGET", self, 0, 0, 0, 10, 0, 0, -1, -1, -1, 0, -1, -1, -1, -1, -1);
    due("what its MAP was, not what it became", self, 0, 0, 2, 10, 10, 0, -1, -1, -1, 0, -1, -1, -1, -1, -1);
  }

  private static void latest() {
    JavaChain x = Write.ints(Write.PUSH, 1, Write.RETURN, 0);
    x.verify();
    x.code(0, 0, Write.PUSH, 1);
    x.define(1, 0);
    x.method(1, 0, Write.INT, Write.INT, Write.INT);
    Check.due("the MAPS stay", 1, x.map(0, 0, 1, 6));
    none("a METHOD put later", x, 1, 0, 0);
    Check.thrown("a FAULT", Check.SUPPORT, x::verify);
    Check.due("a METHOD without INSTRUCTIONS is looked at", 11, x.map(1, 0, 0, 0));
    Check.due("one without a FAULT before", 1, x.map(0, 0, 1, 6));
  }

  private static void afterFaults() {
    JavaChain x = Write.ints(Write.PUSH, 1, Write.PUSH, 1, Write.RETURN, 0);
    x.method(0, 1, Write.INT, Write.INT, Write.INT);
    Write.code(x, 0, 1, Write.PUSH, 1, Write.RETURN, 0);
    x.verify();
    Check.due("looked at", 0, x.map(0, 1, 0, 6));
    JavaChain y = Write.single(15, -1, Write.INT, Write.PUSH, 1, Write.RETURN, 0);
    y.method(0, 1, Write.INT, Write.INT, Write.INT);
    Write.code(y, 0, 1, Write.PUSH, 1, Write.RETURN, 0);
    y.define(5, -1);
    y.verify();
    Check.due("a PARAMETER", 15, y.map(0, 0, 0, 1));
    y.method(5, 3, 14, Write.NONE, Write.INT);
    Check.thrown("class 4 is not there", Check.SUPPORT, y::verify);
    Check.due("the one before", 15, y.map(0, 0, 1, 1));
    none("FAULT 5 before all else", y, 5, 3, 0);
    x.method(0, 2, Write.NONE, Write.NONE, Write.INT);
    x.method(0, 3, Write.NONE, Write.NONE, Write.INT);
    Write.code(x, 0, 3, Write.PUSH, 1, Write.RETURN, 0);
    Check.thrown("one without INSTRUCTIONS", Check.SUPPORT, x::verify);
    none("one behind the FAULT", x, 0, 3, 0);
  }

  private static void meets(JavaChain x, int where) {
    Check.thrown("STACKS that do not fit", Check.SUPPORT, x::verify);
    Check.due("where", where, x.fault(false));
    Check.due("why", 3, x.fault(true));
  }

  private static void meetingKeepsLocals() {
    JavaChain x = Write.single(Write.INT, Write.NONE, Write.INT, Write.PUSH, 1, Write.STORE, 3, Write.PUSH, 7,
        Write.LOAD, 1, Write.ZERO, 9, Write.DROP, 0, Write.EMPTY, 0, Write.STORE, 3, Write.EMPTY, 0, Write.RETURN, 0);
    meets(x, 8);
    due("a JOIN that is NONE keeps the LOCALS", x, 0, 0, 9, 10, 0, -1, 0, -1, -1, 1, 0, -1, -1, -1, -1);
    due("the one that gave it", x, 0, 0, 8, 10, 0, -1, 2, -1, -1, 0, -1, -1, -1, -1, -1);
  }

  private static void meetingKeepsPlacesBelow() {
    JavaChain x = Write.ints(Write.EMPTY, 0, Write.NEW, 1, Write.PUSH, 7, Write.LOAD, 1, Write.ZERO, 11,
        Write.DROP, 0, Write.DROP, 0, Write.DROP, 0, Write.LOAD, 0, Write.NEW, 2, Write.EMPTY, 0, Write.RETURN, 0);
    x.define(1, 0);
    x.define(2, 0);
    meets(x, 10);
    due("and the places below", x, 0, 0, 11, 10, 0, 0, -1, -1, -1, 3, 2, 11, 0, -1, -1);
  }

  private static void meetingKeepsAtCatcher() {
    JavaChain x = Write.ints(Write.PUSH, 1, Write.STORE, 3, Write.PUSH, 7, Write.LOAD, 1, Write.ZERO, 9,
        Write.DROP, 0, Write.EMPTY, 0, Write.STORE, 3, Write.LOAD, 0, Write.THROW, 0);
    x.catcher(0, 0, Write.span(8, 9), 9, 0);
    meets(x, 8);
    due("at the TARGET of a CATCHER too", x, 0, 0, 9, 10, 0, 0, 0, -1, -1, 1, 0, -1, -1, -1, -1);
  }

  private static void meetingKeepsAtHeights() {
    JavaChain x = Write.ints(Write.PUSH, 1, Write.STORE, 3, Write.LOAD, 1, Write.ZERO, 7, Write.EMPTY, 0,
        Write.STORE, 3, Write.PUSH, 7, Write.PUSH, 8, Write.RETURN, 0);
    meets(x, 6);
    due("heights that differ keep it", x, 0, 0, 7, 10, 0, 0, 0, -1, -1, 0, -1, -1, -1, -1, -1);
  }

  private static void meetingAfterOthers() {
    JavaChain x = Write.ints(Write.PUSH, 1, Write.STORE, 3, Write.PUSH, 7, Write.LOAD, 1, Write.ZERO, 9,
        Write.DROP, 0, Write.EMPTY, 0, Write.STORE, 3, Write.EMPTY, 0, Write.RETURN, 0, Write.PUSH, 0,
        Write.RETURN, 0);
    x.catcher(0, 0, Write.span(8, 9), 10, Write.ALL);
    meets(x, 8);
    due("what a TARGET got before stays", x, 0, 0, 10, 10, 0, 0, 2, -1, -1, 0, -1, -1, -1, -1, -1);
    due("behind", x, 0, 0, 9, 10, 0, 0, 0, -1, -1, 1, 0, -1, -1, -1, -1);
  }
}
