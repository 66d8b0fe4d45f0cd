import java.util.NoSuchElementException;

/** Classes in a small machine code, with a verifier and a machine for them; DOC.md says what each call does. */
public final class JavaChain {
  private static final int CLASSES = 6;
  private static final int SLOTS = 4;
  private static final int OWN_FIELDS = 3;
  private static final int ALL_FIELDS = CLASSES * OWN_FIELDS;
  private static final int FIELD_BASE = 32;
  private static final int INSTRUCTIONS = 24;
  private static final int CATCHERS = 2;
  private static final int SPAN_BASE = 32;
  private static final int SPANS = 1024;
  private static final int ALL = 6;
  private static final int MOST_FUEL = 400;
  private static final int MOST_UNDER_WAY = 12;
  private static final int MOST_MADE = 40;
  private static final int LONGEST_ROW = 8;

  private static final int NONE = -1;
  private static final int INT = 0;
  private static final int ROW = 1;
  private static final int NULL = 2;
  private static final int OBJECT = 10;

  // One row of TYPES, in a MAP as in the machine: the LOCALS, the height, the STACK from below.
  private static final int LOCALS = 6;
  private static final int HEIGHT = 6;
  private static final int STACK = 7;
  private static final int HIGHEST = 5;
  private static final int WIDTH = 12;
  private static final int NO_MAP = -2;

  private static final int PUSH = 0;
  private static final int LOAD = 1;
  private static final int STORE = 2;
  private static final int ADD = 3;
  private static final int SUB = 4;
  private static final int MUL = 5;
  private static final int DIV = 6;
  private static final int GOTO = 7;
  private static final int ZERO = 8;
  private static final int LESS = 9;
  private static final int EMPTY = 10;
  private static final int NEW = 11;
  private static final int GET = 12;
  private static final int SET = 13;
  private static final int CALL = 14;
  private static final int CAST = 15;
  private static final int ISNULL = 16;
  private static final int THROW = 17;
  private static final int RETURN = 18;
  private static final int NEW_ROW = 19;
  private static final int AT = 20;
  private static final int TO = 21;
  private static final int SIZE = 22;
  private static final int DROP = 23;
  private static final int TWICE = 24;
  private static final int SAME = 25;

  // By operation; a CALL takes its PARAMETERS besides.
  private static final int[] TAKES = {
    0, 0, 1, 2, 2, 2, 2, 0, 1, 2, 0, 0, 1, 2, 1, 1, 1, 1, 1, 1, 2, 3, 1, 1, 1, 2
  };
  private static final int[] PUTS = {
    1, 1, 0, 1, 1, 1, 1, 0, 0, 0, 1, 1, 1, 0, 1, 1, 0, 0, 0, 1, 1, 0, 1, 0, 2, 1
  };

  private static final int FAULT_HEIGHT = 1;
  private static final int FAULT_TYPE = 2;
  private static final int FAULT_MEETING = 3;
  private static final int FAULT_PLACE = 4;
  private static final int FAULT_NAME = 5;

  private static final int NEVER_RUN = -1;
  private static final int RESULT = 0;
  private static final int ARITHMETIC = 1;
  private static final int MISSING = 2;
  private static final int BOUNDS = 3;
  private static final int CASTING = 4;
  private static final int NO_FUEL = 5;
  private static final int TOO_MUCH = 6;
  private static final int THROWN = 7;
  private static final int FAULTY = 8;
  private static final int GOING = 9;

  // The number of null, so that a reference's number is what run and heap answer.
  private static final int NOTHING = -1;

  // Far above the some 2,000 changes that the MAPS of one METHOD can go through.
  private static final int MOST_LOOKS = 1000000;

  private final World world;
  private final Verifier verifier;
  private final Machine machine;
  private boolean verified;

  public JavaChain() {
    world = new World();
    Checker checker = new Checker(world);
    verifier = new Verifier(world, checker);
    machine = new Machine(world, checker);
    verified = false;
  }

  public int define(int k, int base) throws IllegalArgumentException, IllegalStateException {
    needRange(k, 0, CLASSES - 1);
    needRange(base, NONE, CLASSES - 1);
    needState(!world.has(k) && (base == NONE || base < k && world.has(base)));
    world.putClass(k, base);
    verified = false;
    return world.classCount();
  }

  public int field(int k, int type)
      throws IllegalArgumentException, NoSuchElementException, IllegalStateException {
    needRange(k, 0, CLASSES - 1);
    needType(type);
    needThere(world.has(k));
    needState(world.ownFields[k] < OWN_FIELDS && !world.isSuper(k));
    verified = false;
    return world.putField(k, type);
  }

  public int method(int k, int slot, int one, int two, int result)
      throws IllegalArgumentException, NoSuchElementException, IllegalStateException {
    needRange(k, 0, CLASSES - 1);
    needRange(slot, 0, SLOTS - 1);
    needParameters(one, two);
    needType(result);
    needThere(world.has(k));
    needState(world.own(k, slot) == null && !world.clashes(k, slot, one, two, result));
    world.putMethod(k, slot, new Method(one, two, result));
    verified = false;
    return world.ownMethods(k);
  }

  public int code(int k, int slot, int operation, int x)
      throws IllegalArgumentException, NoSuchElementException, IllegalStateException {
    needRange(k, 0, CLASSES - 1);
    needRange(slot, 0, SLOTS - 1);
    needRange(operation, PUSH, SAME);
    Method m = ownMethod(k, slot);
    needState(m.size < INSTRUCTIONS);
    verified = false;
    return m.addInstruction(operation, x);
  }

  public int catcher(int k, int slot, int span, int target, int kind)
      throws IllegalArgumentException, NoSuchElementException, IllegalStateException {
    needRange(k, 0, CLASSES - 1);
    needRange(slot, 0, SLOTS - 1);
    needRange(span, 0, SPANS - 1);
    needRange(target, 0, INSTRUCTIONS - 1);
    needRange(kind, 0, ALL);
    Method m = ownMethod(k, slot);
    needState(m.catchers < CATCHERS);
    verified = false;
    return m.addCatcher(span, target, kind);
  }

  public int verify() throws UnsupportedOperationException {
    verified = verifier.findsNoFault();
    needSupport(verified);
    return world.methodCount();
  }

  public int map(int k, int slot, int pc, int i) throws IllegalArgumentException, NoSuchElementException {
    needRange(k, 0, CLASSES - 1);
    needRange(slot, 0, SLOTS - 1);
    needRange(pc, 0, INSTRUCTIONS - 1);
    needRange(i, 0, WIDTH - 1);
    Method m = ownMethod(k, slot);
    return m.hasMap(pc) ? m.maps[pc * WIDTH + i] : NO_MAP;
  }

  public int fault(boolean why) {
    return why ? verifier.why : verifier.where;
  }

  public int run(int k, int a, int b, int fuel, boolean guarded)
      throws IllegalArgumentException, NoSuchElementException, IllegalStateException,
          UnsupportedOperationException, IndexOutOfBoundsException {
    needRange(k, 0, CLASSES - 1);
    needRange(fuel, 1, MOST_FUEL);
    needThere(world.has(k));
    needSupport(guarded || verified);
    Method first = world.found(k, 0);
    needIndex(first != null);
    machine.begin(k, first, a, b);
    machine.carryOn(fuel, guarded);
    needState(machine.status == RESULT);
    return machine.answer;
  }

  public int outcome(int what) throws IllegalArgumentException {
    needRange(what, 0, 3);
    switch (what) {
      case 0:
        return machine.status;
      case 1:
        return machine.detail;
      case 2:
        return machine.done;
      default:
        return machine.store.made;
    }
  }

  public int heap(int n, int i) throws IndexOutOfBoundsException {
    needIndex(machine.store.has(n, i));
    return machine.store.values[machine.store.cell(n, i)];
  }

  public int about(int k, int what) throws IllegalArgumentException {
    needRange(k, 0, CLASSES - 1);
    needRange(what, 0, 2 + SLOTS);
    if (what == 0) {
      return world.has(k) ? 1 : 0;
    }
    if (!world.has(k)) {
      return -1;
    }
    if (what == 1) {
      return world.supers[k];
    }
    if (what == 2) {
      return world.fieldCount(k);
    }
    Method m = world.own(k, what - 3);
    return m == null ? -1 : m.size;
  }

  private Method ownMethod(int k, int slot) {
    Method m = world.has(k) ? world.own(k, slot) : null;
    needThere(m != null);
    return m;
  }

  private static void needRange(int number, int least, int most) {
    if (number < least || number > most) {
      throw new IllegalArgumentException();
    }
  }

  private static void needType(int type) {
    if (!isDeclarable(type)) {
      throw new IllegalArgumentException();
    }
  }

  private static void needParameters(int one, int two) {
    boolean oneFits = one == NONE || isDeclarable(one);
    boolean twoFits = two == NONE || one != NONE && isDeclarable(two);
    if (!oneFits || !twoFits) {
      throw new IllegalArgumentException();
    }
  }

  private static boolean isDeclarable(int type) {
    return type == INT || type == ROW || type >= OBJECT && type < OBJECT + CLASSES;
  }

  private static void needThere(boolean there) {
    if (!there) {
      throw new NoSuchElementException();
    }
  }

  private static void needState(boolean fits) {
    if (!fits) {
      throw new IllegalStateException();
    }
  }

  private static void needSupport(boolean supported) {
    if (!supported) {
      throw new UnsupportedOperationException();
    }
  }

  private static void needIndex(boolean inside) {
    if (!inside) {
      throw new IndexOutOfBoundsException();
    }
  }

  /** A METHOD with its INSTRUCTIONS and CATCHERS, and the MAPS that the latest VERIFYING found for it. */
  private static final class Method {
    final int one;
    final int two;
    final int result;
    final int[] operations = new int[INSTRUCTIONS];
    final int[] arguments = new int[INSTRUCTIONS];
    int size = 0;
    final int[] from = new int[CATCHERS];
    final int[] to = new int[CATCHERS];
    final int[] target = new int[CATCHERS];
    final int[] kind = new int[CATCHERS];
    int catchers = 0;
    final int[] maps = new int[INSTRUCTIONS * WIDTH];
    final boolean[] fresh = new boolean[INSTRUCTIONS];

    Method(int one, int two, int result) {
      this.one = one;
      this.two = two;
      this.result = result;
      forgetMaps();
    }

    int parameters() {
      if (one == NONE) {
        return 0;
      }
      return two == NONE ? 1 : 2;
    }

    int parameter(int i) {
      return i == 0 ? one : two;
    }

    int addInstruction(int operation, int x) {
      operations[size] = operation;
      arguments[size] = x;
      size++;
      return size - 1;
    }

    int addCatcher(int span, int target, int kind) {
      from[catchers] = span / SPAN_BASE;
      to[catchers] = span % SPAN_BASE;
      this.target[catchers] = target;
      this.kind[catchers] = kind;
      catchers++;
      return catchers;
    }

    boolean isAround(int i, int pc) {
      return from[i] <= pc && pc < to[i];
    }

    boolean hasMap(int pc) {
      return maps[pc * WIDTH + HEIGHT] != NO_MAP;
    }

    void forgetMaps() {
      for (int pc = 0; pc < INSTRUCTIONS; pc++) {
        maps[pc * WIDTH + HEIGHT] = NO_MAP;
        fresh[pc] = false;
      }
    }

    int leastFresh() {
      for (int pc = 0; pc < INSTRUCTIONS; pc++) {
        if (fresh[pc]) {
          return pc;
        }
      }
      return NONE;
    }
  }

  /** The classes that are there, and how their TYPES stand to one another. */
  private static final class World {
    final boolean[] there = new boolean[CLASSES];
    final int[] supers = new int[CLASSES];
    final int[] ownFields = new int[CLASSES];
    // The number of the first FIELD of its own; it stays, for a SUPER gets no more FIELDS.
    final int[] firstOwn = new int[CLASSES];
    final int[] fieldTypes = new int[ALL_FIELDS];
    final Method[] methods = new Method[CLASSES * SLOTS];

    World() {
      for (int k = 0; k < CLASSES; k++) {
        supers[k] = NONE;
      }
    }

    boolean has(int k) {
      return k >= 0 && k < CLASSES && there[k];
    }

    boolean hasTypesClass(int type) {
      return type < OBJECT || has(type - OBJECT);
    }

    int classCount() {
      int count = 0;
      for (int k = 0; k < CLASSES; k++) {
        if (there[k]) {
          count++;
        }
      }
      return count;
    }

    void putClass(int k, int base) {
      there[k] = true;
      supers[k] = base;
      firstOwn[k] = base == NONE ? 0 : fieldCount(base);
    }

    boolean isSuper(int k) {
      for (int low = k + 1; low < CLASSES; low++) {
        if (supers[low] == k) {
          return true;
        }
      }
      return false;
    }

    int putField(int k, int type) {
      fieldTypes[k * OWN_FIELDS + ownFields[k]] = type;
      ownFields[k]++;
      return fieldCount(k) - 1;
    }

    int fieldCount(int k) {
      return firstOwn[k] + ownFields[k];
    }

    boolean hasField(int k, int f) {
      return has(k) && f >= 0 && f < fieldCount(k);
    }

    int fieldType(int k, int f) {
      int owner = k;
      for (int steps = 0; steps < CLASSES && f < firstOwn[owner]; steps++) {
        owner = supers[owner];
      }
      return fieldTypes[owner * OWN_FIELDS + f - firstOwn[owner]];
    }

    void putMethod(int k, int slot, Method m) {
      methods[k * SLOTS + slot] = m;
    }

    Method own(int k, int slot) {
      return methods[k * SLOTS + slot];
    }

    /** The METHOD of a class for a SLOT, its own or one from above; null without. */
    Method found(int k, int slot) {
      if (!has(k) || slot < 0 || slot >= SLOTS) {
        return null;
      }
      int owner = k;
      for (int steps = 0; steps < CLASSES && owner != NONE; steps++) {
        Method m = own(owner, slot);
        if (m != null) {
          return m;
        }
        owner = supers[owner];
      }
      return null;
    }

    int ownMethods(int k) {
      int count = 0;
      for (int slot = 0; slot < SLOTS; slot++) {
        if (own(k, slot) != null) {
          count++;
        }
      }
      return count;
    }

    int methodCount() {
      int count = 0;
      for (int k = 0; k < CLASSES; k++) {
        count += ownMethods(k);
      }
      return count;
    }

    boolean clashes(int k, int slot, int one, int two, int result) {
      for (int other = 0; other < CLASSES; other++) {
        Method m = own(other, slot);
        boolean related = isOrIsAbove(other, k) || isOrIsAbove(k, other);
        if (m != null && related && (m.one != one || m.two != two || m.result != result)) {
          return true;
        }
      }
      return false;
    }

    boolean isOrIsAbove(int high, int low) {
      int k = low;
      // A SUPER has a lesser number, so behind high there is nothing to find.
      for (int steps = 0; steps < CLASSES && k > high; steps++) {
        k = supers[k];
      }
      return k == high;
    }

    boolean isPart(int type, int other) {
      if (type == other) {
        return true;
      }
      if (type == NULL) {
        return other == ROW || other >= OBJECT;
      }
      return type >= OBJECT && other >= OBJECT && isOrIsAbove(other - OBJECT, type - OBJECT);
    }

    int join(int type, int other) {
      if (isPart(type, other)) {
        return other;
      }
      if (isPart(other, type)) {
        return type;
      }
      if (type < OBJECT || other < OBJECT) {
        return NONE;
      }
      int above = supers[type - OBJECT];
      for (int steps = 0; steps < CLASSES && above != NONE; steps++) {
        if (isOrIsAbove(above, other - OBJECT)) {
          return OBJECT + above;
        }
        above = supers[above];
      }
      return NONE;
    }
  }

  /** Finds the FAULTS that one INSTRUCTION has on a row of TYPES, for the verifier and the GUARDED machine. */
  private static final class Checker {
    private final World world;

    Checker(World world) {
      this.world = world;
    }

    /** The row begins at at; 0 without a FAULT. */
    int firstFault(Method m, int pc, int[] row, int at) {
      if (!placesAreThere(m, pc)) {
        return FAULT_PLACE;
      }
      if (!namesAreThere(m, pc)) {
        return FAULT_NAME;
      }
      if (!heightFits(m.operations[pc], m.arguments[pc], row[at + HEIGHT])) {
        return FAULT_HEIGHT;
      }
      return typesFit(m, pc, row, at) ? 0 : FAULT_TYPE;
    }

    boolean jumps(int operation) {
      return operation == GOTO || operation == ZERO || operation == LESS || operation == ISNULL;
    }

    boolean goesOn(int operation) {
      return operation != GOTO && operation != THROW && operation != RETURN;
    }

    int takes(int operation, int x) {
      if (operation != CALL) {
        return TAKES[operation];
      }
      Method called = world.found(x / SLOTS, x % SLOTS);
      return TAKES[CALL] + (called == null ? 0 : called.parameters());
    }

    private boolean placesAreThere(Method m, int pc) {
      if (pc >= m.size) {
        return false;
      }
      for (int i = 0; i < m.catchers; i++) {
        if (m.isAround(i, pc) && m.target[i] >= m.size) {
          return false;
        }
      }
      int x = m.arguments[pc];
      if (jumps(m.operations[pc]) && (x < 0 || x >= m.size)) {
        return false;
      }
      return !goesOn(m.operations[pc]) || pc + 1 < m.size;
    }

    private boolean namesAreThere(Method m, int pc) {
      for (int i = 0; i < m.catchers; i++) {
        if (m.isAround(i, pc) && m.kind[i] != ALL && !world.has(m.kind[i])) {
          return false;
        }
      }
      int x = m.arguments[pc];
      switch (m.operations[pc]) {
        case LOAD:
        case STORE:
          return x >= 0 && x < LOCALS;
        case NEW:
        case CAST:
          return world.has(x);
        case GET:
        case SET:
          return world.hasField(x / FIELD_BASE, x % FIELD_BASE);
        case CALL:
          return world.found(x / SLOTS, x % SLOTS) != null;
        default:
          return true;
      }
    }

    private boolean heightFits(int operation, int x, int height) {
      int left = height - takes(operation, x);
      return left >= 0 && left + PUTS[operation] <= HIGHEST;
    }

    private boolean typesFit(Method m, int pc, int[] row, int at) {
      int x = m.arguments[pc];
      int last = at + STACK + row[at + HEIGHT] - 1;
      switch (m.operations[pc]) {
        case LOAD:
          return row[at + x] != NONE;
        case ADD:
        case SUB:
        case MUL:
        case DIV:
        case LESS:
          return row[last - 1] == INT && row[last] == INT;
        case ZERO:
        case NEW_ROW:
          return row[last] == INT;
        case GET:
          return world.isPart(row[last], OBJECT + x / FIELD_BASE);
        case SET:
          return world.isPart(row[last - 1], OBJECT + x / FIELD_BASE)
              && world.isPart(row[last], world.fieldType(x / FIELD_BASE, x % FIELD_BASE));
        case CALL:
          return callFits(x, row, last);
        case CAST:
        case THROW:
          return row[last] == NULL || row[last] >= OBJECT;
        case ISNULL:
          return row[last] != INT;
        case RETURN:
          return world.isPart(row[last], m.result);
        case AT:
          return world.isPart(row[last - 1], ROW) && row[last] == INT;
        case TO:
          return world.isPart(row[last - 2], ROW) && row[last - 1] == INT && row[last] == INT;
        case SIZE:
          return world.isPart(row[last], ROW);
        case SAME:
          return row[last - 1] != INT && row[last] != INT;
        default:
          return true;
      }
    }

    private boolean callFits(int x, int[] row, int last) {
      Method called = world.found(x / SLOTS, x % SLOTS);
      if (called == null) {
        return false;
      }
      int self = last - called.parameters();
      for (int i = 0; i < called.parameters(); i++) {
        if (!world.isPart(row[self + 1 + i], called.parameter(i))) {
          return false;
        }
      }
      return world.isPart(row[self], OBJECT + x / SLOTS);
    }
  }

  /** VERIFYING: works the MAPS of all METHODS out, up to the first FAULT. */
  private static final class Verifier {
    private final World world;
    private final Checker checker;
    // What the MAP was when its INSTRUCTION began to be looked at.
    private final int[] before = new int[WIDTH];
    private final int[] given = new int[WIDTH];
    // Apart from the MAP, which stays as it was if a JOIN further up is a FAULT.
    private final int[] joined = new int[WIDTH];
    int where = -1;
    int why = -1;

    Verifier(World world, Checker checker) {
      this.world = world;
      this.checker = checker;
    }

    boolean findsNoFault() {
      forget();
      for (int k = 0; k < CLASSES; k++) {
        for (int slot = 0; slot < SLOTS; slot++) {
          Method m = world.own(k, slot);
          if (m != null && !isFaultless(m, k, slot)) {
            return false;
          }
        }
      }
      return true;
    }

    private void forget() {
      where = -1;
      why = -1;
      for (int i = 0; i < CLASSES * SLOTS; i++) {
        if (world.methods[i] != null) {
          world.methods[i].forgetMaps();
        }
      }
    }

    private boolean isFaultless(Method m, int k, int slot) {
      if (!classesOfTypesAreThere(m, k)) {
        tell(k, slot, 0, FAULT_NAME);
        return false;
      }
      start(m, k);
      for (int looks = 0; looks < MOST_LOOKS; looks++) {
        int pc = m.leastFresh();
        if (pc == NONE) {
          return true;
        }
        m.fresh[pc] = false;
        System.arraycopy(m.maps, pc * WIDTH, before, 0, WIDTH);
        int number = checker.firstFault(m, pc, before, 0);
        if (number == 0 && (!giveCatchers(m, pc) || !giveNext(m, pc))) {
          number = FAULT_MEETING;
        }
        if (number != 0) {
          tell(k, slot, pc, number);
          return false;
        }
      }
      return true;
    }

    private void tell(int k, int slot, int pc, int number) {
      where = 1000 * k + 100 * slot + pc;
      why = number;
    }

    private boolean classesOfTypesAreThere(Method m, int k) {
      for (int f = 0; f < world.fieldCount(k); f++) {
        if (!world.hasTypesClass(world.fieldType(k, f))) {
          return false;
        }
      }
      return world.hasTypesClass(m.one) && world.hasTypesClass(m.two) && world.hasTypesClass(m.result);
    }

    private void start(Method m, int k) {
      for (int i = 0; i < WIDTH; i++) {
        given[i] = NONE;
      }
      given[0] = OBJECT + k;
      given[1] = m.one;
      given[2] = m.two;
      given[HEIGHT] = 0;
      meet(m, 0);
    }

    private boolean giveCatchers(Method m, int pc) {
      for (int i = 0; i < m.catchers; i++) {
        if (m.isAround(i, pc)) {
          System.arraycopy(before, 0, given, 0, WIDTH);
          lower(before[HEIGHT]);
          if (m.kind[i] != ALL) {
            put(OBJECT + m.kind[i]);
          }
          if (!meet(m, m.target[i])) {
            return false;
          }
        }
      }
      return true;
    }

    private boolean giveNext(Method m, int pc) {
      int operation = m.operations[pc];
      int x = m.arguments[pc];
      System.arraycopy(before, 0, given, 0, WIDTH);
      act(operation, x);
      if (checker.jumps(operation) && !meet(m, x)) {
        return false;
      }
      return !checker.goesOn(operation) || meet(m, pc + 1);
    }

    private void act(int operation, int x) {
      int top = before[HEIGHT] == 0 ? NONE : before[STACK + before[HEIGHT] - 1];
      lower(checker.takes(operation, x));
      if (operation == STORE) {
        given[x] = top;
      }
      for (int i = 0; i < PUTS[operation]; i++) {
        put(typeOfResult(operation, x, top));
      }
    }

    private int typeOfResult(int operation, int x, int top) {
      switch (operation) {
        case LOAD:
          return before[x];
        case EMPTY:
          return NULL;
        case NEW:
        case CAST:
          return OBJECT + x;
        case GET:
          return world.fieldType(x / FIELD_BASE, x % FIELD_BASE);
        case CALL:
          Method called = world.found(x / SLOTS, x % SLOTS);
          return called == null ? NONE : called.result;
        case NEW_ROW:
          return ROW;
        case TWICE:
          return top;
        default:
          return INT;
      }
    }

    private void lower(int count) {
      for (int i = 0; i < count; i++) {
        given[HEIGHT]--;
        given[STACK + given[HEIGHT]] = NONE;
      }
    }

    private void put(int type) {
      given[STACK + given[HEIGHT]] = type;
      given[HEIGHT]++;
    }

    /** INSTRUCTION pc gets what is given; false, and it gets nothing, if the STACKS do not fit. */
    private boolean meet(Method m, int pc) {
      int at = pc * WIDTH;
      if (!m.hasMap(pc)) {
        System.arraycopy(given, 0, m.maps, at, WIDTH);
        m.fresh[pc] = true;
        return true;
      }
      if (m.maps[at + HEIGHT] != given[HEIGHT]) {
        return false;
      }
      boolean changes = false;
      System.arraycopy(given, 0, joined, 0, WIDTH);
      for (int i = 0; i < STACK + given[HEIGHT]; i++) {
        if (i != HEIGHT) {
          joined[i] = world.join(m.maps[at + i], given[i]);
          if (i >= STACK && joined[i] == NONE) {
            return false;
          }
          changes = changes || joined[i] != m.maps[at + i];
        }
      }
      if (changes) {
        System.arraycopy(joined, 0, m.maps, at, WIDTH);
        m.fresh[pc] = true;
      }
      return true;
    }
  }

  /** The OBJECTS and ROWS of one RUNNING; of each value the int or number, and in FIELDS its TYPE. */
  private static final class Store {
    final int[] sizes = new int[MOST_MADE];
    final int[] types = new int[MOST_MADE * ALL_FIELDS];
    final int[] values = new int[MOST_MADE * ALL_FIELDS];
    int made = 0;

    boolean isFull() {
      return made >= MOST_MADE;
    }

    boolean has(int n, int i) {
      return n >= 0 && n < made && i >= 0 && i < sizes[n];
    }

    int cell(int n, int i) {
      return n * ALL_FIELDS + i;
    }

    int makeObject(World world, int k) {
      int size = world.fieldCount(k);
      for (int f = 0; f < size; f++) {
        boolean isInt = world.fieldType(k, f) == INT;
        types[cell(made, f)] = isInt ? INT : NULL;
        values[cell(made, f)] = isInt ? 0 : NOTHING;
      }
      return addSized(size);
    }

    int makeRow(int size) {
      for (int i = 0; i < size; i++) {
        values[cell(made, i)] = 0;
      }
      return addSized(size);
    }

    private int addSized(int size) {
      sizes[made] = size;
      made++;
      return made - 1;
    }
  }

  /** RUNNING: one row of TYPES and one of values for each METHOD under way. */
  private static final class Machine {
    private final World world;
    private final Checker checker;
    final Store store = new Store();
    private final Method[] underWay = new Method[MOST_UNDER_WAY];
    // A METHOD that waits for another one stands at its CALL.
    private final int[] pcs = new int[MOST_UNDER_WAY];
    private final int[] types = new int[MOST_UNDER_WAY * WIDTH];
    private final int[] values = new int[MOST_UNDER_WAY * WIDTH];
    private int top = NONE;
    int status = NEVER_RUN;
    int detail = 0;
    int done = 0;
    int answer = 0;

    Machine(World world, Checker checker) {
      this.world = world;
      this.checker = checker;
    }

    void begin(int k, Method first, int a, int b) {
      store.made = 0;
      status = GOING;
      detail = 0;
      done = 0;
      top = NONE;
      open(first);
      setLocal(0, OBJECT + k, store.makeObject(world, k));
      int number = a;
      for (int i = 0; i < first.parameters(); i++) {
        if (first.parameter(i) == INT) {
          setLocal(1 + i, INT, number);
          number = b;
        } else {
          setLocal(1 + i, NULL, NOTHING);
        }
      }
    }

    void carryOn(int fuel, boolean guarded) {
      for (done = 0; done < fuel && status == GOING; done++) {
        if (guarded) {
          int number = checker.firstFault(underWay[top], pcs[top], types, top * WIDTH);
          if (number != 0) {
            end(FAULTY, number);
            return;
          }
        }
        step();
      }
      if (status == GOING) {
        end(NO_FUEL, 0);
      }
    }

    private void end(int status, int detail) {
      this.status = status;
      this.detail = detail;
    }

    private void open(Method m) {
      top++;
      underWay[top] = m;
      pcs[top] = 0;
      for (int i = 0; i < LOCALS; i++) {
        setLocal(i, NONE, NOTHING);
      }
      types[top * WIDTH + HEIGHT] = 0;
    }

    private void setLocal(int i, int type, int value) {
      types[top * WIDTH + i] = type;
      values[top * WIDTH + i] = value;
    }

    /** Answers the place, which can be read until something is put. */
    private int take() {
      int at = top * WIDTH;
      types[at + HEIGHT]--;
      return at + STACK + types[at + HEIGHT];
    }

    private void put(int type, int value) {
      int at = top * WIDTH;
      int place = at + STACK + types[at + HEIGHT];
      types[place] = type;
      values[place] = value;
      types[at + HEIGHT]++;
    }

    private void step() {
      int c = pcs[top];
      int operation = underWay[top].operations[c];
      int x = underWay[top].arguments[c];
      switch (operation) {
        case GOTO:
        case ZERO:
        case LESS:
        case ISNULL:
          pcs[top] = isJumpTaken(operation) ? x : c + 1;
          break;
        case CALL:
          callMethod(x);
          break;
        case THROW:
          throwTaken();
          break;
        case RETURN:
          leave();
          break;
        default:
          int signal = actOnStack(operation, x);
          if (signal == 0) {
            pcs[top] = c + 1;
          } else {
            raise(signal, NONE, NOTHING);
          }
      }
    }

    private boolean isJumpTaken(int operation) {
      if (operation == GOTO) {
        return true;
      }
      int last = take();
      if (operation == ISNULL) {
        return types[last] == NULL;
      }
      if (operation == ZERO) {
        return values[last] == 0;
      }
      return values[take()] < values[last];
    }

    private void callMethod(int x) {
      int count = checker.takes(CALL, x) - 1;
      int self = top * WIDTH + STACK + types[top * WIDTH + HEIGHT] - 1 - count;
      types[top * WIDTH + HEIGHT] -= 1 + count;
      if (types[self] == NULL) {
        raise(MISSING, NONE, NOTHING);
        return;
      }
      Method m = world.found(types[self] - OBJECT, x % SLOTS);
      if (m == null || top + 1 >= MOST_UNDER_WAY) {
        end(TOO_MUCH, 0);
        return;
      }
      open(m);
      for (int i = 0; i <= count; i++) {
        setLocal(i, types[self + i], values[self + i]);
      }
    }

    private void throwTaken() {
      int thrown = take();
      if (types[thrown] == NULL) {
        raise(MISSING, NONE, NOTHING);
      } else {
        raise(THROWN, types[thrown], values[thrown]);
      }
    }

    private void leave() {
      int result = take();
      if (top == 0) {
        answer = values[result];
        end(RESULT, 0);
        return;
      }
      top--;
      put(types[result], values[result]);
      pcs[top]++;
    }

    /** A SIGNAL, or THROWN with the OBJECT's TYPE and number, goes to the first CATCHER for it. */
    private void raise(int what, int type, int number) {
      for (int frame = top; frame >= 0; frame--) {
        Method m = underWay[frame];
        for (int i = 0; i < m.catchers; i++) {
          if (m.isAround(i, pcs[frame]) && catches(m.kind[i], type)) {
            top = frame;
            pcs[top] = m.target[i];
            types[top * WIDTH + HEIGHT] = 0;
            if (m.kind[i] != ALL) {
              put(type, number);
            }
            return;
          }
        }
      }
      end(what, what == THROWN ? type - OBJECT : 0);
    }

    private boolean catches(int kind, int type) {
      return kind == ALL || type >= OBJECT && world.isOrIsAbove(kind, type - OBJECT);
    }

    /** Does an INSTRUCTION that the one behind follows; answers its SIGNAL, 0 without. */
    private int actOnStack(int operation, int x) {
      switch (operation) {
        case PUSH:
          put(INT, x);
          return 0;
        case LOAD:
          put(types[top * WIDTH + x], values[top * WIDTH + x]);
          return 0;
        case STORE:
          int stored = take();
          setLocal(x, types[stored], values[stored]);
          return 0;
        case EMPTY:
          put(NULL, NOTHING);
          return 0;
        case DROP:
          take();
          return 0;
        case TWICE:
          int doubled = take();
          put(types[doubled], values[doubled]);
          put(types[doubled], values[doubled]);
          return 0;
        case ADD:
        case SUB:
        case MUL:
        case DIV:
          return reckon(operation);
        case NEW_ROW:
        case AT:
        case TO:
        case SIZE:
          return actOnRow(operation);
        default:
          return actOnObject(operation, x);
      }
    }

    private int reckon(int operation) {
      int q = values[take()];
      int p = values[take()];
      switch (operation) {
        case ADD:
          put(INT, p + q);
          return 0;
        case SUB:
          put(INT, p - q);
          return 0;
        case MUL:
          put(INT, p * q);
          return 0;
        default:
          if (q == 0) {
            return ARITHMETIC;
          }
          put(INT, p / q);
          return 0;
      }
    }

    private int actOnRow(int operation) {
      if (operation == NEW_ROW) {
        return makeRow(values[take()]);
      }
      int value = operation == TO ? values[take()] : 0;
      int index = operation == SIZE ? 0 : values[take()];
      int row = take();
      if (types[row] == NULL) {
        return MISSING;
      }
      int n = values[row];
      if (operation == SIZE) {
        put(INT, store.sizes[n]);
        return 0;
      }
      if (!store.has(n, index)) {
        return BOUNDS;
      }
      if (operation == AT) {
        put(INT, store.values[store.cell(n, index)]);
      } else {
        store.values[store.cell(n, index)] = value;
      }
      return 0;
    }

    private int makeRow(int size) {
      if (size < 0 || size > LONGEST_ROW) {
        return BOUNDS;
      }
      if (store.isFull()) {
        end(TOO_MUCH, 0);
      } else {
        put(ROW, store.makeRow(size));
      }
      return 0;
    }

    private int actOnObject(int operation, int x) {
      switch (operation) {
        case NEW:
          makeObject(x);
          return 0;
        case GET:
          return getField(x % FIELD_BASE);
        case SET:
          return setField(x % FIELD_BASE);
        case CAST:
          int o = take();
          put(types[o], values[o]);
          return world.isPart(types[o], OBJECT + x) ? 0 : CASTING;
        default:
          int s = values[take()];
          int r = values[take()];
          put(INT, r == s ? 1 : 0);
          return 0;
      }
    }

    private void makeObject(int k) {
      if (store.isFull()) {
        end(TOO_MUCH, 0);
      } else {
        put(OBJECT + k, store.makeObject(world, k));
      }
    }

    private int getField(int f) {
      int o = take();
      if (types[o] == NULL) {
        return MISSING;
      }
      int cell = store.cell(values[o], f);
      put(store.types[cell], store.values[cell]);
      return 0;
    }

    private int setField(int f) {
      int v = take();
      int o = take();
      if (types[o] == NULL) {
        return MISSING;
      }
      int cell = store.cell(values[o], f);
      store.types[cell] = types[v];
      store.values[cell] = values[v];
      return 0;
    }
  }
}
