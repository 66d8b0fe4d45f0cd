import java.util.function.IntFunction;
import java.util.function.ToIntFunction;

/** Terms: what is thrown, in its order, and that a call that throws changes nothing, but as said. */
public final class TermsThrownTest {
  private static final int MIN = Integer.MIN_VALUE;
  private static final int MAX = Integer.MAX_VALUE;
  private static final int[] NO_CLASS = {MIN, -1, 6, MAX};
  private static final int[] NO_SLOT = {MIN, -1, 4, MAX};
  private static final int[] NO_TYPE = {MIN, -2, 2, 3, 9, 16, MAX};

  public static void main(String[] args) {
    define();
    field();
    method();
    code();
    catcher();
    map();
    run();
    others();
    verifyThatThrows();
    runThatThrows();
    questionsChangeNothing();
    Check.end();
  }

  /**
   * VERIFIED, with a RUNNING: class 0 with three FIELDS and METHOD 0, class 2 below it with METHOD 1 of 24 INSTRUCTIONS
   * and two CATCHERS, class 3 below 2 and class 5 without anything.
   */
  private static JavaChain world() {
    JavaChain x = Write.ints("LOAD 0; LOAD 1; SET 0; LOAD 2; ROW; STORE 3; LOAD 1; RETURN");
    x.field(0, Write.INT);
    x.field(0, Write.ROWS);
    x.field(0, 12);
    x.define(2, 0);
    x.define(3, 2);
    x.define(5, -1);
    x.method(2, 1, Write.INT, Write.ROWS, Write.INT);
    Write.code(x, 2, 1, "PUSH 1; RETURN; " + "PUSH 1; ".repeat(21) + "RETURN");
    x.catcher(2, 1, Write.span(3, 4), 0, Write.ALL);
    x.catcher(2, 1, Write.span(4, 5), 0, 2);
    x.verify();
    x.run(2, 41, 6, 99, false);
    return x;
  }

  private static void refused(String what, Class<? extends RuntimeException> want, ToIntFunction<JavaChain> call) {
    JavaChain x = world();
    String before = Snapshot.of(x);
    Check.thrown(what, want, () -> call.applyAsInt(x));
    String after = Snapshot.of(x);
    if (!before.equals(after)) {
      Check.tell(what + " changes something", before, after);
    }
    Check.due(what + ": still VERIFIED", 42, x.run(0, 42, 3, 99, false));
  }

  private static void outOfRange(int[] numbers, String what, IntFunction<ToIntFunction<JavaChain>> call) {
    for (int number : numbers) {
      refused(what + " " + number, Check.RANGE, call.apply(number));
    }
  }

  private static void define() {
    outOfRange(NO_CLASS, "define k", k -> x -> x.define(k, -1));
    outOfRange(new int[] {MIN, -2, 6, MAX}, "define base", base -> x -> x.define(4, base));
    refused("number before class: there already, base 6", Check.RANGE, x -> x.define(0, 6));
    for (int base = -1; base < 6; base++) {
      int of = base;
      refused("it is there, base " + base, Check.STATE, x -> x.define(3, of));
    }
    refused("base 1 is not there", Check.STATE, x -> x.define(4, 1));
    refused("base 4 is itself", Check.STATE, x -> x.define(4, 4));
    refused("base 5 is there, but greater", Check.STATE, x -> x.define(4, 5));
    refused("base 2 is there, but greater", Check.STATE, x -> x.define(1, 2));
  }

  private static void field() {
    outOfRange(NO_CLASS, "field k", k -> x -> x.field(k, 0));
    outOfRange(NO_TYPE, "field type", type -> x -> x.field(5, type));
    outOfRange(new int[] {-1}, "field type", type -> x -> x.field(5, type));
    outOfRange(NO_TYPE, "number before class", type -> x -> x.field(4, type));
    outOfRange(NO_TYPE, "number before state", type -> x -> x.field(0, type));
    refused("class 4 is not there", Check.NOT_THERE, x -> x.field(4, 0));
    refused("three are there", Check.STATE, x -> x.field(0, 0));
    refused("a SUPER", Check.STATE, x -> x.field(2, 0));
  }

  private static void method() {
    outOfRange(NO_CLASS, "method k", k -> x -> x.method(k, 0, -1, -1, 0));
    outOfRange(NO_SLOT, "method slot", slot -> x -> x.method(5, slot, -1, -1, 0));
    outOfRange(NO_TYPE, "method one", one -> x -> x.method(5, 0, one, -1, 0));
    outOfRange(NO_TYPE, "method two", two -> x -> x.method(5, 0, 0, two, 0));
    outOfRange(NO_TYPE, "method result", result -> x -> x.method(5, 0, -1, -1, result));
    outOfRange(new int[] {-1}, "method result", result -> x -> x.method(5, 0, -1, -1, result));
    for (int two : new int[] {0, 1, 10, 15}) {
      refused("two without one", Check.RANGE, x -> x.method(5, 0, -1, two, 0));
      refused("two without one, before the class", Check.RANGE, x -> x.method(4, 0, -1, two, 0));
      refused("two without one, before the METHOD", Check.RANGE, x -> x.method(0, 0, -1, two, 0));
    }
    refused("number before class", Check.RANGE, x -> x.method(4, 0, -1, -1, 2));
    refused("number before state", Check.RANGE, x -> x.method(0, 0, 0, 0, 2));
    refused("class 4 is not there", Check.NOT_THERE, x -> x.method(4, 0, -1, -1, 0));
    refused("it has one", Check.STATE, x -> x.method(0, 0, 0, 0, 0));
    refused("another above", Check.STATE, x -> x.method(3, 0, 0, 0, 1));
    refused("another below", Check.STATE, x -> x.method(0, 1, 0, 1, 1));
  }

  private static void code() {
    outOfRange(NO_CLASS, "code k", k -> x -> x.code(k, 0, 0, 0));
    outOfRange(NO_SLOT, "code slot", slot -> x -> x.code(0, slot, 0, 0));
    outOfRange(new int[] {MIN, -1, 26, MAX}, "code operation", operation -> x -> x.code(0, 0, operation, 0));
    refused("number before class", Check.RANGE, x -> x.code(4, 0, 26, 0));
    refused("number before METHOD", Check.RANGE, x -> x.code(0, 1, 26, 0));
    refused("number before state", Check.RANGE, x -> x.code(2, 1, 26, 0));
    refused("class 4 is not there", Check.NOT_THERE, x -> x.code(4, 0, 0, 0));
    refused("no METHOD", Check.NOT_THERE, x -> x.code(5, 0, 0, 0));
    refused("a METHOD, but of its SUPER", Check.NOT_THERE, x -> x.code(3, 1, 0, 0));
    refused("a METHOD, but of one below", Check.NOT_THERE, x -> x.code(0, 1, 0, 0));
    refused("24 are there", Check.STATE, x -> x.code(2, 1, 0, 0));
  }

  private static void catcher() {
    outOfRange(NO_CLASS, "catcher k", k -> x -> x.catcher(k, 0, 0, 0, 0));
    outOfRange(NO_SLOT, "catcher slot", slot -> x -> x.catcher(0, slot, 0, 0, 0));
    outOfRange(new int[] {MIN, -1, 1024, MAX}, "catcher span", span -> x -> x.catcher(0, 0, span, 0, 0));
    outOfRange(new int[] {MIN, -1, 24, MAX}, "catcher target", target -> x -> x.catcher(0, 0, 0, target, 0));
    outOfRange(new int[] {MIN, -1, 7, MAX}, "catcher kind", kind -> x -> x.catcher(0, 0, 0, 0, kind));
    refused("number before class", Check.RANGE, x -> x.catcher(4, 0, 0, 24, 0));
    refused("number before METHOD", Check.RANGE, x -> x.catcher(0, 1, 1024, 0, 0));
    refused("number before state", Check.RANGE, x -> x.catcher(2, 1, 0, 0, 7));
    refused("class 4 is not there", Check.NOT_THERE, x -> x.catcher(4, 0, 0, 0, 0));
    refused("no METHOD", Check.NOT_THERE, x -> x.catcher(5, 0, 0, 0, 0));
    refused("a METHOD, but of its SUPER", Check.NOT_THERE, x -> x.catcher(3, 1, 0, 0, 0));
    refused("a METHOD, but of one below", Check.NOT_THERE, x -> x.catcher(0, 1, 0, 0, 0));
    refused("two are there", Check.STATE, x -> x.catcher(2, 1, 0, 0, 0));
  }

  private static void map() {
    outOfRange(NO_CLASS, "map k", k -> x -> x.map(k, 0, 0, 0));
    outOfRange(NO_SLOT, "map slot", slot -> x -> x.map(0, slot, 0, 0));
    outOfRange(new int[] {MIN, -1, 24, MAX}, "map pc", pc -> x -> x.map(0, 0, pc, 0));
    outOfRange(new int[] {MIN, -1, 12, MAX}, "map i", i -> x -> x.map(0, 0, 0, i));
    refused("number before class", Check.RANGE, x -> x.map(4, 0, 0, 12));
    refused("number before METHOD", Check.RANGE, x -> x.map(5, 0, 24, 0));
    refused("class 4 is not there", Check.NOT_THERE, x -> x.map(4, 0, 0, 0));
    refused("no METHOD", Check.NOT_THERE, x -> x.map(5, 0, 0, 0));
    refused("a METHOD, but of its SUPER", Check.NOT_THERE, x -> x.map(3, 1, 0, 0));
    refused("a METHOD, but of one below", Check.NOT_THERE, x -> x.map(0, 1, 0, 0));
  }

  private static void run() {
    for (boolean guarded : new boolean[] {false, true}) {
      outOfRange(NO_CLASS, "run k", k -> x -> x.run(k, 0, 0, 1, guarded));
      outOfRange(new int[] {MIN, -1, 0, 401, MAX}, "run fuel", fuel -> x -> x.run(0, 0, 0, fuel, guarded));
      refused("number before class", Check.RANGE, x -> x.run(4, 0, 0, 0, guarded));
      refused("number before METHOD", Check.RANGE, x -> x.run(5, 0, 0, 401, guarded));
      refused("class 4 is not there", Check.NOT_THERE, x -> x.run(4, 0, 0, 1, guarded));
      refused("no METHOD for SLOT 0", Check.INDEX, x -> x.run(5, 0, 0, 1, guarded));
    }
    notVerified("number", Check.RANGE, x -> x.run(0, 0, 0, 0, false));
    notVerified("class", Check.NOT_THERE, x -> x.run(4, 0, 0, 1, false));
    notVerified("METHOD", Check.SUPPORT, x -> x.run(5, 0, 0, 1, false));
    notVerified("nothing else", Check.SUPPORT, x -> x.run(0, 0, 0, 1, false));
    notVerified("METHOD, GUARDED", Check.INDEX, x -> x.run(5, 0, 0, 1, true));
  }

  private static void notVerified(String what, Class<? extends RuntimeException> want, ToIntFunction<JavaChain> call) {
    JavaChain x = world();
    x.define(1, -1);
    String before = Snapshot.of(x);
    Check.thrown("not VERIFIED, and " + what, want, () -> call.applyAsInt(x));
    if (!before.equals(Snapshot.of(x))) {
      Check.tell("not VERIFIED, and " + what + " changes something", before, Snapshot.of(x));
    }
  }

  private static void others() {
    outOfRange(new int[] {MIN, -1, 4, MAX}, "outcome", what -> x -> x.outcome(what));
    outOfRange(NO_CLASS, "about k", k -> x -> x.about(k, 0));
    outOfRange(new int[] {MIN, -1, 7, MAX}, "about what", what -> x -> x.about(0, what));
    outOfRange(new int[] {MIN, -1, 7, MAX}, "about what of none", what -> x -> x.about(4, what));
    for (int n : new int[] {MIN, -1, 2, 40, MAX}) {
      refused("heap of none " + n, Check.INDEX, x -> x.heap(n, 0));
    }
    for (int i : new int[] {MIN, -1, 6, 8, MAX}) {
      refused("heap of the ROW, none at " + i, Check.INDEX, x -> x.heap(1, i));
    }
    for (int i : new int[] {MIN, -1, 3, 18, MAX}) {
      refused("heap of the OBJECT, none at " + i, Check.INDEX, x -> x.heap(0, i));
    }
  }

  /** "A FAULT .. WHERE and WHY are told, nothing is VERIFIED": classes and the latest RUNNING stay. */
  private static void verifyThatThrows() {
    JavaChain x = world();
    x.code(0, 0, Write.PUSH, 1);
    x.method(5, 3, Write.NONE, Write.NONE, Write.INT);
    String classes = Snapshot.classes(x);
    String running = Snapshot.running(x);
    Check.fault("a METHOD without INSTRUCTIONS", 4, 5300, x);
    Check.due("the classes stay", 1, classes.equals(Snapshot.classes(x)) ? 1 : 0);
    Check.due("the RUNNING stays", 1, running.equals(Snapshot.running(x)) ? 1 : 0);
    Check.thrown("nothing is VERIFIED", Check.SUPPORT, () -> x.run(0, 0, 0, 9, false));
    Check.fault("the same again", 4, 5300, x);
  }

  /** A RUNNING without a RESULT is the latest one; all else stays, VERIFIED too. */
  private static void runThatThrows() {
    JavaChain x = world();
    String classes = Snapshot.classes(x);
    String maps = Snapshot.maps(x);
    Check.thrown("BOUNDS", Check.STATE, () -> x.run(0, 7, 9, 99, false));
    Check.outcome("BOUNDS", x, 3, 0, 5, 1);
    Check.due("what was SET", 7, x.heap(0, 0));
    Check.thrown("the ROW of the one before is gone", Check.INDEX, () -> x.heap(1, 0));
    Check.due("the classes stay", 1, classes.equals(Snapshot.classes(x)) ? 1 : 0);
    Check.due("the MAPS stay", 1, maps.equals(Snapshot.maps(x)) ? 1 : 0);
    Check.due("still VERIFIED", 7, x.run(0, 7, 8, 99, false));
  }

  private static void questionsChangeNothing() {
    JavaChain x = world();
    String before = Snapshot.of(x);
    Check.due("told twice alike", 1, before.equals(Snapshot.of(x)) ? 1 : 0);
    Check.due("still VERIFIED", 8, x.run(0, 8, 8, 99, false));
    String after = Snapshot.classes(x) + Snapshot.maps(x);
    Check.due("a RUNNING changes no class and no MAP", 1, before.startsWith(after) ? 1 : 0);
  }
}
