/** Terms: VERIFYING, told by the MAPS and by which FAULT is found first. */
public final class TermsVerifyingTest {
  public static void main(String[] args) {
    firstMap();
    methodsInOrder();
    leastFirst();
    faultsBeforeAnythingIsGiven();
    catchersBeforeNext();
    catchersInOrder();
    jumpBeforeBehind();
    asItsMapWas();
    catchersOfAllInstructions();
    newOnlyIfChanged();
    localsJoinAndAreNew();
    placesJoinAndAreNew();
    placesThatDoNotJoin();
    heightsThatDiffer();
    noneReached();
    Check.end();
  }

  private static void map(String what, JavaChain x, int pc, int... want) {
    for (int i = 0; i < 12; i++) {
      Check.due(what + ": map(0, 0, " + pc + ", " + i + ")", want[i], x.map(0, 0, pc, i));
    }
  }

  private static void noMap(String what, JavaChain x, int pc) {
    Check.due(what + ": no MAP at " + pc, -2, x.map(0, 0, pc, 6));
  }

  private static JavaChain world(String program) {
    JavaChain x = Write.ints(program);
    Write.belowZero(x);
    return x;
  }

  /** "at INSTRUCTION 0 LOCAL 0 is an OBJECT of the class, then the PARAMETERS, the others NONE" */
  private static void firstMap() {
    int[] types = {-1, 0, 1, 10, 11, 12, 13, 14, 15};
    for (int k = 0; k < 6; k++) {
      for (int one : types) {
        for (int two : one == -1 ? new int[] {-1} : types) {
          JavaChain x = Write.family();
          x.method(k, 2, one, two, Write.INT);
          Write.code(x, k, 2, "PUSH 1; RETURN");
          Check.faultless("PARAMETERS " + one + " " + two, x);
          int[] want = {10 + k, one, two, -1, -1, -1, 0, -1, -1, -1, -1, -1};
          for (int i = 0; i < 12; i++) {
            Check.due("class " + k + ", PARAMETERS " + one + " " + two + ", " + i, want[i], x.map(k, 2, 0, i));
          }
        }
      }
    }
  }

  /** "of each METHOD of each class in order": the first FAULT ends it. */
  private static void methodsInOrder() {
    JavaChain x = Write.family();
    for (int k = 5; k >= 0; k--) {
      for (int slot = 3; slot >= 0; slot--) {
        Write.method(x, k, slot, "PUSH 1; ADD; RETURN");
      }
    }
    Check.fault("all of them", 1, 1, x);
    for (int k = 0; k < 6; k++) {
      for (int slot = 0; slot < 4; slot++) {
        Check.due("the next ones are not looked at", k == 0 && slot == 0 ? 0 : -2, x.map(k, slot, 0, 6));
      }
    }
    JavaChain y = Write.family();
    Write.method(y, 1, 3, "PUSH 1; RETURN");
    Write.method(y, 2, 0, "PUSH 1; ADD; RETURN");
    Write.method(y, 2, 1, "ADD");
    Write.method(y, 3, 0, "PUSH 1; RETURN");
    Check.fault("class 2 before 3, SLOT 0 before 1", 1, 2001, y);
    Check.due("the one before", 1, y.map(1, 3, 1, 6));
    Check.due("SLOT 1", -2, y.map(2, 1, 0, 6));
    Check.due("class 3", -2, y.map(3, 0, 0, 6));
  }

  /** "the least such INSTRUCTION is looked at" */
  private static void leastFirst() {
    Check.fault("the one behind before x", 1, 3, world("LOAD 1; ZERO 4; PUSH 1; ADD; ADD; RETURN"));
    Check.fault("x before the one behind", 1, 1, world("GOTO 3; DROP; GOTO 0; LOAD 1; ZERO 1; RETURN"));
    JavaChain caught = world("GOTO 2; ADD; ADD; RETURN");
    caught.catcher(0, 0, Write.span(0, 1), 1, Write.ALL);
    Check.fault("a TARGET before x", 1, 1, caught);
    noMap("the one behind ADD", caught, 3);
    map("x has its MAP", caught, 2, 10, 0, 0, -1, -1, -1, 0, -1, -1, -1, -1, -1);
    JavaChain loop = world("PUSH 1; STORE 3; LOAD 3; DROP; EMPTY; STORE 3; LOAD 1; ZERO 2; ADD; RETURN");
    Check.fault("what is new again before what is new", 2, 2, loop);
  }

  /** FAULTS 4, 5, 1 and 2 come before 3, which is found when something is given: so nothing is given then. */
  private static void faultsBeforeAnythingIsGiven() {
    String[] faulty = {"ZERO 9", "CAST 9", "ADD", "SIZE"};
    int[] why = {4, 5, 1, 2};
    for (int i = 0; i < faulty.length; i++) {
      JavaChain x = world("PUSH 1; " + faulty[i] + "; DROP; PUSH 1; RETURN; PUSH 1; RETURN");
      x.catcher(0, 0, Write.span(1, 2), 5, Write.ALL);
      Check.fault(faulty[i], why[i], 1, x);
      noMap("the one behind " + faulty[i], x, 2);
      noMap("TARGET of " + faulty[i], x, 5);
      map("it has its own", x, 1, 10, 0, 0, -1, -1, -1, 1, 0, -1, -1, -1, -1);
    }
  }

  /** "first, for each CATCHER around it, TARGET gets": so it is the one behind that does not fit. */
  private static void catchersBeforeNext() {
    JavaChain x = world("LOAD 0; DROP; PUSH 1; RETURN");
    x.catcher(0, 0, Write.span(0, 1), 1, Write.ALL);
    Check.fault("TARGET is the one behind", 3, 0, x);
    map("it keeps what the CATCHER gave", x, 1, 10, 0, 0, -1, -1, -1, 0, -1, -1, -1, -1, -1);
    JavaChain typed = world("PUSH 1; DROP; PUSH 1; RETURN");
    typed.catcher(0, 0, Write.span(0, 1), 1, 5);
    Check.fault("its STACK is that OBJECT", 3, 0, typed);
    map("the OBJECT of the CATCHER", typed, 1, 10, 0, 0, -1, -1, -1, 1, 15, -1, -1, -1, -1);
    JavaChain first = world("PUSH 1; GOTO 2; DROP; PUSH 1; RETURN");
    first.catcher(0, 0, Write.span(1, 2), 1, Write.ALL);
    Check.fault("its own TARGET", 3, 1, first);
    noMap("x gets nothing then", first, 2);
  }

  private static void catchersInOrder() {
    JavaChain x = world("PUSH 1; RETURN; DROP; PUSH 1; RETURN; PUSH 1; RETURN");
    x.catcher(0, 0, Write.span(0, 1), 2, 4);
    x.catcher(0, 0, Write.span(0, 1), 2, Write.ALL);
    Check.fault("the second does not fit the first", 3, 0, x);
    map("what the first gave", x, 2, 10, 0, 0, -1, -1, -1, 1, 14, -1, -1, -1, -1);
    noMap("the one behind", x, 1);
    JavaChain turned = world("PUSH 1; RETURN; DROP; PUSH 1; RETURN; PUSH 1; RETURN");
    turned.catcher(0, 0, Write.span(0, 1), 2, Write.ALL);
    turned.catcher(0, 0, Write.span(0, 1), 2, 4);
    Check.fault("turned", 3, 0, turned);
    map("what the first gave, turned", turned, 2, 10, 0, 0, -1, -1, -1, 0, -1, -1, -1, -1, -1);
    JavaChain both = world("PUSH 1; RETURN; DROP; PUSH 1; RETURN");
    both.catcher(0, 0, Write.span(0, 1), 2, 2);
    both.catcher(0, 0, Write.span(0, 2), 2, 3);
    Check.faultless("two classes", both);
    map("their JOIN", both, 2, 10, 0, 0, -1, -1, -1, 1, 11, -1, -1, -1, -1);
    JavaChain stops = world("PUSH 1; GOTO 2; RETURN; PUSH 1; RETURN");
    stops.catcher(0, 0, Write.span(1, 2), 0, 4);
    stops.catcher(0, 0, Write.span(1, 2), 3, Write.ALL);
    Check.fault("the first one does not fit", 3, 1, stops);
    noMap("TARGET of the second", stops, 3);
    noMap("x", stops, 2);
  }

  /** "all INSTRUCTIONS that can be next, x before the one behind" */
  private static void jumpBeforeBehind() {
    String[] jumps = {"PUSH 0; ZERO ", "EMPTY; ISNULL ", "PUSH 1; PUSH 2; LESS "};
    for (String jump : jumps) {
      int at = 2 + Write.length(jump + "0");
      JavaChain behind = world("LOAD 1; ZERO " + (at + 1) + "; PUSH 7; " + jump + (at + 2) + "; PUSH 1; RETURN");
      Check.fault(jump + "and the one behind does not fit", 3, at, behind);
      map(jump + "x got it before", behind, at + 2, 10, 0, 0, -1, -1, -1, 1, 0, -1, -1, -1, -1);
      map(jump + "the other one keeps its own", behind, at + 1, 10, 0, 0, -1, -1, -1, 0, -1, -1, -1, -1, -1);
      JavaChain far = world("LOAD 1; ZERO " + (at + 2) + "; PUSH 7; " + jump + (at + 2) + "; RETURN; PUSH 1; RETURN");
      Check.fault(jump + "and x does not fit", 3, at, far);
      noMap(jump + "the one behind got nothing", far, at + 1);
    }
  }

  /** "(all as its MAP was when it began to be looked at)": 7 becomes OBJECT 0 while 8 still gets OBJECT 1. */
  private static void asItsMapWas() {
    JavaChain x = world("PUSH 1; STORE 4; LOAD 4; DROP; EMPTY; STORE 4; NEW 1; STORE 3; PUSH 0; RETURN");
    x.catcher(0, 0, Write.span(7, 8), 7, 0);
    x.catcher(0, 0, Write.span(7, 8), 2, Write.ALL);
    Check.fault("LOCAL 4 is NONE when 2 is new again", 2, 2, x);
    map("its own TARGET changed it", x, 7, 10, 0, 0, -1, 2, -1, 1, 10, -1, -1, -1, -1);
    map("the one behind got what it was", x, 8, 10, 0, 0, 11, 2, -1, 0, -1, -1, -1, -1, -1);
    map("so did the other TARGET", x, 2, 10, 0, 0, -1, -1, -1, 0, -1, -1, -1, -1, -1);
  }

  /** A CATCHER gets from each INSTRUCTION that it is around, whatever that does; the LOCALS are those before it. */
  private static void catchersOfAllInstructions() {
    JavaChain x = world("PUSH 1; STORE 3; GOTO 3; PUSH 1; RETURN; PUSH 1; RETURN");
    for (int pc = 0; pc < 5; pc++) {
      JavaChain y = world("PUSH 1; STORE 3; GOTO 3; PUSH 1; RETURN; PUSH 1; RETURN");
      y.catcher(0, 0, Write.span(pc, pc + 1), 5, Write.ALL);
      Check.faultless("around " + pc, y);
      map("around " + pc, y, 5, 10, 0, 0, pc < 2 ? -1 : 0, -1, -1, 0, -1, -1, -1, -1, -1);
    }
    x.catcher(0, 0, Write.span(5, 31), 5, Write.ALL);
    Check.faultless("around none that is reached", x);
    noMap("around none that is reached", x, 5);
    JavaChain thrown = world("LOAD 0; THROW; DROP; PUSH 1; RETURN");
    thrown.catcher(0, 0, Write.span(1, 2), 2, 5);
    Check.faultless("around THROW, whatever is THROWN", thrown);
    map("around THROW", thrown, 2, 10, 0, 0, -1, -1, -1, 1, 15, -1, -1, -1, -1);
  }

  /** A loop that changes nothing ends. */
  private static void newOnlyIfChanged() {
    JavaChain self = world("GOTO 0");
    Check.faultless("GOTO itself", self);
    map("GOTO itself", self, 0, 10, 0, 0, -1, -1, -1, 0, -1, -1, -1, -1, -1);
    JavaChain loop = world("PUSH 1; DROP; GOTO 0");
    loop.catcher(0, 0, Write.span(0, 3), 0, Write.ALL);
    Check.faultless("a loop with a CATCHER", loop);
    Check.due("one METHOD", 1, loop.verify());
  }

  private static void localsJoinAndAreNew() {
    for (int local = 0; local < 6; local++) {
      String store = "; STORE " + local + "; ";
      JavaChain x = world("NEW 1" + store + "PUSH 1; DROP; PUSH 0; ZERO 8; PUSH 1; RETURN; NEW 4" + store + "GOTO 2");
      Check.faultless("LOCAL " + local, x);
      for (int pc = 2; pc < 9; pc++) {
        Check.due("JOIN of LOCAL " + local + " at " + pc, 10, x.map(0, 0, pc, local));
      }
      Check.due("LOCAL " + local + " behind STORE", 14, x.map(0, 0, 10, local));
    }
    JavaChain none = world("PUSH 1; STORE 3; LOAD 1; ZERO 6; EMPTY; STORE 3; PUSH 5; STORE 3; LOAD 3; RETURN");
    Check.faultless("a LOCAL that is NONE can be STORED", none);
    Check.due("NONE", -1, none.map(0, 0, 6, 3));
    Check.due("INT again", 0, none.map(0, 0, 8, 3));
  }

  /** Five on the STACK, one of another TYPE by the second way. */
  private static JavaChain five(int place, String left, String right) {
    StringBuilder program = new StringBuilder("LOAD 1; ZERO 8; ");
    for (int i = 0; i < 5; i++) {
      program.append(i == place ? left : "PUSH 1").append("; ");
    }
    program.append("GOTO 13; ");
    for (int i = 0; i < 5; i++) {
      program.append(i == place ? right : "PUSH 1").append("; ");
    }
    return world(program + "GOTO 14; STORE 3; STORE 3; STORE 3; STORE 3; STORE 3; PUSH 1; RETURN");
  }

  /** "each LOCAL is the JOIN of both, the STACKS too; if that changes something it is new" */
  private static void placesJoinAndAreNew() {
    for (int place = 0; place < 5; place++) {
      JavaChain x = five(place, "NEW 1", "NEW 4");
      Check.faultless("OBJECTS at place " + place, x);
      for (int j = 0; j < 5; j++) {
        Check.due("place " + j, j == place ? 10 : 0, x.map(0, 0, 13, 7 + j));
        Check.due("place " + j + ", behind", j == place ? 10 : 0, x.map(0, 0, 14, 7 + j));
      }
      Check.due("height", 5, x.map(0, 0, 13, 6));
      Check.due("the one taken", 10, x.map(0, 0, 14 + 5 - place, 3));
    }
  }

  /** "3 .. or a JOIN in them is NONE" */
  private static void placesThatDoNotJoin() {
    for (int place = 0; place < 5; place++) {
      Check.fault("INT and null at place " + place, 3, 12, five(place, "PUSH 1", "EMPTY"));
      Check.fault("OBJECTS of none above both at place " + place, 3, 12, five(place, "NEW 2", "NEW 5"));
      JavaChain x = five(place, "EMPTY", "LOAD 2");
      Check.fault("null and INT at place " + place, 3, 12, x);
      Check.due("the MAP stays", 2, x.map(0, 0, 13, 7 + place));
    }
  }

  /** "3 STACKS that meet differ in height" */
  private static void heightsThatDiffer() {
    for (int left = 0; left <= 4; left++) {
      for (int right = 0; right <= 4; right++) {
        String program = "LOAD 1; ZERO " + (3 + left) + "; " + "PUSH 1; ".repeat(left) + "GOTO " + (4 + left + right)
            + "; " + "PUSH 1; ".repeat(right) + "GOTO " + (4 + left + right) + "; PUSH 1; RETURN";
        JavaChain x = world(program);
        String what = "heights " + left + " and " + right;
        if (left == right) {
          Check.faultless(what, x);
        } else {
          Check.fault(what, 3, 3 + left + right, x);
        }
        Check.due(what + ": the first", left, x.map(0, 0, 4 + left + right, 6));
      }
    }
  }

  /** What no way leads to is not looked at. */
  private static void noneReached() {
    JavaChain x = world("GOTO 4; ADD; LOAD 9; GOTO 99; PUSH 1; RETURN; THROW");
    Check.faultless("between and behind", x);
    for (int pc : new int[] {1, 2, 3, 6, 7, 23}) {
      noMap("not reached", x, pc);
    }
  }
}
