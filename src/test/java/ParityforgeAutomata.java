import java.lang.reflect.Constructor;
import java.lang.reflect.Field;
import java.lang.reflect.Method;

/**
 * Counts the automata of all formulas up to a size, but for the names of inputs and outputs, and of their contraries:
 * by the largest ones no search for a word can have more nodes or turns than the class has room for. The argument is
 * the size: 8 for all that can be made, half a minute; without it 7.
 */
public final class ParityforgeAutomata {
  static final int KNOWN = 28;
  static final int EDGES = 34;
  static final int REACH = 4;
  static final int MARKS = 5;
  static final int BRANCHES = 6;

  final Object formulas;
  final Object maker;
  final Object elements;
  final Method add;
  final Method gather;
  final Method make;
  final Method cost;
  final Field count;
  final Field atoms;
  final Field start;
  final Field marks;
  final Field reach;
  final char[] text = new char[8];
  int at;
  long counted;
  long largestCost;
  long mostEdges;
  long mostMarks;
  long furthest;
  long mostBranches;

  static Class<?> inside(String name) throws ReflectiveOperationException {
    return Class.forName("Parityforge$" + name);
  }

  static Object made(String name, Object... with) throws ReflectiveOperationException {
    Constructor<?> constructor = inside(name).getDeclaredConstructors()[0];
    constructor.setAccessible(true);
    return constructor.newInstance(with);
  }

  static Method method(String of, String name, Class<?>... with) throws ReflectiveOperationException {
    Method method = inside(of).getDeclaredMethod(name, with);
    method.setAccessible(true);
    return method;
  }

  static Field field(String of, String name) throws ReflectiveOperationException {
    Field field = inside(of).getDeclaredField(name);
    field.setAccessible(true);
    return field;
  }

  ParityforgeAutomata() throws ReflectiveOperationException {
    formulas = made("Formulas");
    maker = made("AutomatonMaker", formulas, made("Alphabet", 2, 2));
    elements = field("AutomatonMaker", "elements").get(maker);
    add = method("Formulas", "add", char.class, int.class, int.class);
    gather = method("Elements", "gather", int.class, int.class, boolean.class);
    make = method("AutomatonMaker", "make", int.class);
    cost = method("Automaton", "cost");
    count = field("Formulas", "count");
    atoms = field("Automaton", "atoms");
    start = field("Automaton", "start");
    marks = field("Automaton", "marks");
    reach = field("Automaton", "reach");
  }

  /** Writes all formulas with their kinds ahead of their parts; new names are taken in their order. */
  void write(int length, int parts, int left, int names) throws ReflectiveOperationException {
    if (parts == 0) {
      lookAt();
      return;
    }
    if (left < parts) return;
    for (char leaf : "tfabcd".toCharArray()) {
      int name = leaf - 'a';
      if (leaf == 't' || leaf == 'f' || name <= names) {
        text[length] = leaf;
        write(length + 1, parts - 1, left - 1, leaf == 't' || leaf == 'f' ? names : Math.max(names, name + 1));
      }
    }
    for (char kind : "!XFG&|>UWR".toCharArray()) {
      text[length] = kind;
      if ("!XFG".indexOf(kind) >= 0) write(length + 1, parts, left - 1, names);
      else write(length + 1, parts + 1, left - 1, names);
    }
  }

  int read() throws ReflectiveOperationException {
    char kind = text[at++];
    if (kind >= 'a' && kind <= 'd') return (Integer) add.invoke(formulas, kind < 'c' ? 'i' : 'o', (kind - 'a') % 2, 0);
    if (kind == 't' || kind == 'f') return (Integer) add.invoke(formulas, kind, 0, 0);
    int first = read();
    int second = "!XFG".indexOf(kind) >= 0 ? 0 : read();
    return (Integer) add.invoke(formulas, kind, first, second);
  }

  void lookAt() throws ReflectiveOperationException {
    at = 0;
    count.set(formulas, 0);
    int whole = read();
    for (int side = 0; side < 2; side++) {
      Object ahead = make.invoke(maker, gather.invoke(elements, whole, side, true));
      if ((Integer) reach.get(ahead) > 0) {
        Object near = make.invoke(maker, gather.invoke(elements, whole, side, false));
        measure((Integer) cost.invoke(ahead) > 2 * (Integer) cost.invoke(near) ? near : ahead);
      } else {
        measure(ahead);
      }
      counted++;
    }
  }

  void measure(Object automaton) throws ReflectiveOperationException {
    int[] bits = (int[]) atoms.get(automaton);
    int[] rows = (int[]) start.get(automaton);
    largestCost = Math.max(largestCost, (Integer) cost.invoke(automaton));
    mostMarks = Math.max(mostMarks, (Integer) marks.get(automaton));
    furthest = Math.max(furthest, (Integer) reach.get(automaton));
    for (int row = 0; row + 1 < rows.length; row++) mostBranches = Math.max(mostBranches, rows[row + 1] - rows[row]);
    int kept = 0;
    for (int of : bits) {
      for (int bit = of; bit >= 4; bit -= 4) kept |= 1 << bit;
    }
    // For a letter that comes: the edges of all states, with all that may be kept of the letters ahead of it.
    for (int letter = 0; letter < 16; letter++) {
      int edges = 0;
      int old = 0;
      do {
        int row = 0;
        for (int k = 0; k < bits.length; k++) row |= ((old | letter) >> bits[k] & 1) << k;
        for (; row + 1 < rows.length; row += 1 << bits.length) edges += rows[row + 1] - rows[row];
        old = old - kept & kept;
      } while (old != 0);
      mostEdges = Math.max(mostEdges, edges);
    }
  }

  static long constant(String of, String name) throws ReflectiveOperationException {
    return field(of, name).getInt(null);
  }

  static long power(long number, int times) {
    return times == 0 ? 1 : number * power(number, times - 1);
  }

  public static void main(String[] args) throws ReflectiveOperationException {
    int size = args.length > 0 ? Integer.parseInt(args[0]) : 7;
    ParityforgeAutomata all = new ParityforgeAutomata();
    all.write(0, 1, size, 0);
    System.out.println(all.counted + " automata of formulas up to the size " + size + ": at most " + all.largestCost
        + " states with kept letters, " + all.mostEdges + " edges for a letter, " + all.mostMarks + " marks, "
        + all.mostBranches + " edges of a state, " + all.furthest + " letters ahead");
    boolean within = all.largestCost <= KNOWN && all.mostEdges <= EDGES && all.mostMarks <= MARKS
        && all.mostBranches <= BRANCHES && all.furthest <= REACH;
    int parts = (int) constant("Product", "MOST_PARTS");
    long nodes = 2 * power(KNOWN, parts) * (REACH + 1);
    long turns = 16 * power(EDGES, parts) * (REACH + 1) + 17 * nodes;
    boolean room = nodes <= constant("Product", "MOST_NODES") && turns <= constant("Product", "MOST_TURNS")
        && KNOWN <= constant("Product", "STATES") && power(BRANCHES, parts) <= constant("Product", "BRANCHES")
        && parts * MARKS <= 30;
    if (!within || !room) {
      System.out.println("a search may need more than it has: " + nodes + " nodes, " + turns + " turns");
      System.exit(1);
    }
  }
}
