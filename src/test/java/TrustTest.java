/**
 * Programs made by a fixed row of numbers: what is VERIFIED runs alike GUARDED and not, without a FAULT, and no
 * call throws but as its face says.
 */
public final class TrustTest {
  private static final int[] TYPES = {0, 0, 0, 1, 10, 11, 12, 13};
  private static long state = 20261115L;
  private static int verified = 0;
  private static int results = 0;
  private static int caught = 0;

  public static void main(String[] args) {
    for (int i = 0; i < 150000; i++) {
      one();
    }
    if (verified < 3000 || results < 1000 || caught < 100) {
      Check.tell("programs", "enough that are VERIFIED", verified + ", " + results + ", " + caught);
    }
    Check.end();
  }

  private static int below(int bound) {
    state = state * 6364136223846793005L + 1442695040888963407L;
    return (int) ((state >>> 33) % bound);
  }

  private static int type() {
    return TYPES[below(TYPES.length)];
  }

  private static void one() {
    JavaChain x = new JavaChain();
    int classes = 1 + below(4);
    for (int k = 0; k < classes; k++) {
      x.define(k, below(k + 1) - 1);
      for (int f = below(3); f > 0; f--) {
        quietly(x, 0, k, below(5) == 0 ? 10 + below(6) : Math.min(type(), 9 + classes));
      }
    }
    for (int k = 0; k < classes; k++) {
      if (k == 0 || below(3) == 0) {
        quietly(x, 1, k, below(2));
      }
    }
    try {
      x.verify();
      verified++;
      for (int k = 0; k < classes; k++) {
        compare(x, k, below(5) - 1, below(12) - 2);
      }
    } catch (UnsupportedOperationException e) {
      Check.due("WHY", 1, x.fault(true) >= 1 && x.fault(true) <= 5 ? 1 : 0);
      answer(x, below(classes), below(9), below(9), true);
    }
  }

  private static void quietly(JavaChain x, int what, int k, int number) {
    try {
      if (what == 0) {
        x.field(k, number == 9 ? 0 : number);
      } else {
        x.method(k, number, type() % 10 == 0 ? 0 : 1, 0, 0);
        body(x, k, number);
      }
    } catch (IllegalStateException e) {
      // A face that another one above or below does not have: then there is none.
    }
  }

  /** Keeps a rough count of the height, so that some programs are VERIFIED. */
  private static void body(JavaChain x, int k, int slot) {
    int size = 3 + below(14);
    int height = 0;
    for (int i = 0; i < size - 1; i++) {
      int operation = below(26);
      if (operation == Write.RETURN && height != 1) {
        operation = Write.PUSH;
      }
      if (height >= 4) {
        operation = Write.DROP;
      }
      if (height == 0 && operation >= Write.GET) {
        operation = Write.LOAD;
      }
      x.code(k, slot, operation, argument(operation, size));
      height += change(operation);
      height = Math.max(0, height);
    }
    x.code(k, slot, Write.PUSH, 1);
    x.code(k, slot, Write.RETURN, 0);
    for (int i = below(3); i > 0; i--) {
      x.catcher(k, slot, Write.span(below(4), below(18)), size - 1 - below(2), below(5) == 0 ? below(7) : Write.ALL);
    }
  }

  private static int argument(int operation, int size) {
    switch (operation) {
      case Write.LOAD:
      case Write.STORE:
        return below(4);
      case Write.GOTO:
      case Write.ZERO:
      case Write.LESS:
      case Write.ISNULL:
        return below(size + 1);
      case Write.GET:
      case Write.SET:
        return 32 * below(3) + below(3);
      case Write.CALL:
        return 4 * below(3) + below(2);
      case Write.NEW:
      case Write.CAST:
        return below(3);
      default:
        return below(5);
    }
  }

  private static int change(int operation) {
    switch (operation) {
      case Write.PUSH:
      case Write.LOAD:
      case Write.EMPTY:
      case Write.NEW:
      case Write.TWICE:
        return 1;
      case Write.GOTO:
      case Write.GET:
      case Write.CAST:
      case Write.ROW:
      case Write.SIZE:
        return 0;
      case Write.LESS:
      case Write.SET:
      case Write.CALL:
        return -2;
      case Write.TO:
        return -3;
      default:
        return -1;
    }
  }

  /** The RESULT, else -1000 minus the OUTCOME. */
  private static int answer(JavaChain x, int k, int a, int b, boolean guarded) {
    try {
      return x.run(k, a, b, 100 + below(300), guarded);
    } catch (IllegalStateException e) {
      return -1000 - x.outcome(0);
    } catch (IndexOutOfBoundsException e) {
      return e.getClass() == IndexOutOfBoundsException.class ? -2000 : -3000;
    }
  }

  private static void compare(JavaChain x, int k, int a, int b) {
    long before = state;
    int checked = answer(x, k, a, b, true);
    int[] first = {x.outcome(0), x.outcome(1), x.outcome(2), x.outcome(3), cells(x)};
    state = before;
    int trusted = answer(x, k, a, b, false);
    int[] second = {x.outcome(0), x.outcome(1), x.outcome(2), x.outcome(3), cells(x)};
    Check.due("both ways alike", checked, trusted);
    for (int i = 0; i < first.length; i++) {
      Check.due("both OUTCOMES alike", first[i], second[i]);
    }
    Check.due("no FAULT of what is VERIFIED", 0, first[0] == 8 ? 1 : 0);
    Check.due("no strange exception", 0, checked == -3000 || trusted == -3000 ? 1 : 0);
    if (checked > -1000) {
      results++;
    } else if (checked > -2000) {
      caught++;
    }
  }

  private static int cells(JavaChain x) {
    int sum = 0;
    for (int n = 0; n < x.outcome(3); n++) {
      try {
        for (int i = 0; i < 19; i++) {
          sum = 31 * sum + x.heap(n, i);
        }
        Check.tell("cells", "at most 18", "19");
      } catch (IndexOutOfBoundsException e) {
        sum = 31 * sum + n;
      }
    }
    return sum;
  }
}
