/** What an object tells without changing, in some 150 calls, for an object has but 512. */
final class Snapshot {
  private static final int[] PARTS = {0, 3, 6, 7};

  private Snapshot() {}

  static String of(JavaChain x) {
    return classes(x) + maps(x) + "fault " + x.fault(false) + " " + x.fault(true) + "\n" + running(x);
  }

  static String classes(JavaChain x) {
    StringBuilder text = new StringBuilder();
    for (int k = 0; k < 6; k++) {
      text.append("class ").append(k);
      for (int what = 0; what < 7; what++) {
        text.append(' ').append(x.about(k, what));
      }
      text.append('\n');
    }
    return text.toString();
  }

  /** Of each METHOD the first MAPS. */
  static String maps(JavaChain x) {
    StringBuilder text = new StringBuilder();
    for (int k = 0; k < 6; k++) {
      for (int slot = 0; slot < 4; slot++) {
        if (x.about(k, 3 + slot) >= 0) {
          text.append("map ").append(k).append(' ').append(slot);
          for (int i = 0; i < 32; i++) {
            text.append(' ').append(x.map(k, slot, i / 4, PARTS[i % 4]));
          }
          text.append('\n');
        }
      }
    }
    return text.toString();
  }

  static String running(JavaChain x) {
    StringBuilder text = new StringBuilder("outcome");
    for (int what = 0; what < 4; what++) {
      text.append(' ').append(x.outcome(what));
    }
    int made = x.outcome(3);
    for (int n = 0; n <= made; n++) {
      text.append("\nheap ").append(n);
      for (int i = 0; i < 19 && appendCell(text, x, n, i); i++) {
        text.append(' ');
      }
    }
    return text.toString();
  }

  private static boolean appendCell(StringBuilder text, JavaChain x, int n, int i) {
    try {
      text.append(x.heap(n, i));
      return true;
    } catch (IndexOutOfBoundsException e) {
      return false;
    }
  }
}
