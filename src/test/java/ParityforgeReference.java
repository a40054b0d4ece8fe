import java.util.ArrayList;
import java.util.Arrays;
import java.util.List;
import java.util.Random;

/**
 * Compares Parityforge with a second, plain maker that tries all machines and all truths of parts at all
 * places, on formulas and wishes from numbered runs. Arguments: the first run and the number of runs.
 */
public final class ParityforgeReference {
  static final String KINDS = "tfio!!&&||>>XXFFGGUUWWRR";

  final int inputs;
  final int outputs;
  final List<int[]> formulas = new ArrayList<>();
  final List<Integer> assumed = new ArrayList<>();
  final List<Integer> wished = new ArrayList<>();

  ParityforgeReference(int inputs, int outputs) {
    this.inputs = inputs;
    this.outputs = outputs;
  }

  /** A machine as plain rows: gives[state][letter] for a controller, gives[state][0] for an environment. */
  static final class Rows {
    final boolean environment;
    final int[][] gives;
    final int[][] next;

    Rows(boolean environment, int[][] gives, int[][] next) {
      this.environment = environment;
      this.gives = gives;
      this.next = next;
    }
  }

  int whole(Rows m, int state, int letter) {
    return m.environment ? m.gives[state][0] | letter << inputs : letter | m.gives[state][letter] << inputs;
  }

  // ---- formulas in words, by the words of the document

  boolean at(int formula, int[] word, int loop, int place) {
    int[] f = formulas.get(formula);
    int p = place < word.length ? place : loop + (place - loop) % (word.length - loop);
    int far = p + 2 * word.length;
    switch (f[0]) {
      case 't': return true;
      case 'f': return false;
      case 'i': return (word[p] >> f[1] & 1) == 1;
      case 'o': return (word[p] >> inputs + f[1] & 1) == 1;
      case '!': return !at(f[1], word, loop, p);
      case '&': return at(f[1], word, loop, p) && at(f[2], word, loop, p);
      case '|': return at(f[1], word, loop, p) || at(f[2], word, loop, p);
      case '>': return !at(f[1], word, loop, p) || at(f[2], word, loop, p);
      case 'X': return at(f[1], word, loop, p + 1);
      case 'F':
        for (int k = p; k <= far; k++) if (at(f[1], word, loop, k)) return true;
        return false;
      case 'G': return always(f[1], word, loop, p, far);
      case 'U': return until(f[1], f[2], word, loop, p, far);
      case 'W': return until(f[1], f[2], word, loop, p, far) || always(f[1], word, loop, p, far);
      default:
        if (always(f[2], word, loop, p, far)) return true;
        for (int k = p; k <= far; k++) {
          if (!at(f[2], word, loop, k)) return false;
          if (at(f[1], word, loop, k)) return true;
        }
        return false;
    }
  }

  boolean always(int formula, int[] word, int loop, int from, int to) {
    for (int k = from; k <= to; k++) if (!at(formula, word, loop, k)) return false;
    return true;
  }

  boolean until(int a, int b, int[] word, int loop, int from, int to) {
    for (int k = from; k <= to; k++) {
      if (at(b, word, loop, k)) return true;
      if (!at(a, word, loop, k)) return false;
    }
    return false;
  }

  // ---- whether a machine has a word in which some formulas hold and others do not

  void collect(int formula, List<Integer> temporal) {
    int[] f = formulas.get(formula);
    int parts = "tfio".indexOf(f[0]) >= 0 ? 0 : "!XFG".indexOf(f[0]) >= 0 ? 1 : 2;
    if (parts >= 1) collect(f[1], temporal);
    if (parts == 2) collect(f[2], temporal);
    if ("XFGUWR".indexOf(f[0]) >= 0 && !temporal.contains(formula)) temporal.add(formula);
  }

  boolean now(int formula, int letter, int truths, List<Integer> temporal) {
    int[] f = formulas.get(formula);
    switch (f[0]) {
      case 't': return true;
      case 'f': return false;
      case 'i': return (letter >> f[1] & 1) == 1;
      case 'o': return (letter >> inputs + f[1] & 1) == 1;
      case '!': return !now(f[1], letter, truths, temporal);
      case '&': return now(f[1], letter, truths, temporal) && now(f[2], letter, truths, temporal);
      case '|': return now(f[1], letter, truths, temporal) || now(f[2], letter, truths, temporal);
      case '>': return !now(f[1], letter, truths, temporal) || now(f[2], letter, truths, temporal);
      default: return (truths >> temporal.indexOf(formula) & 1) == 1;
    }
  }

  /** What the temporal parts are at a letter, if they are so at the next place, whose letter is told too. */
  int before(int letter, int nextLetter, int nextTruths, List<Integer> temporal) {
    int truths = 0;
    for (int i = 0; i < temporal.size(); i++) {
      int[] f = formulas.get(temporal.get(i));
      boolean self = (nextTruths >> i & 1) == 1;
      boolean a = f[0] == 'X' ? now(f[1], nextLetter, nextTruths, temporal) : now(f[1], letter, truths, temporal);
      boolean b = "UWR".indexOf(f[0]) >= 0 && now(f[2], letter, truths, temporal);
      boolean value;
      switch (f[0]) {
        case 'X': value = a; break;
        case 'F': value = a || self; break;
        case 'G': value = a && self; break;
        case 'R': value = b && (a || self); break;
        default: value = b || a && self; break;
      }
      truths |= value ? 1 << i : 0;
    }
    return truths;
  }

  boolean fair(int i, int letter, int truths, List<Integer> temporal) {
    int[] f = formulas.get(temporal.get(i));
    boolean value = (truths >> i & 1) == 1;
    boolean a = f[0] != 'X' && now(f[1], letter, truths, temporal);
    boolean b = "UWR".indexOf(f[0]) >= 0 && now(f[2], letter, truths, temporal);
    switch (f[0]) {
      case 'F': return !value || a;
      case 'U': return !value || b;
      case 'G': return value || !a;
      case 'R': return value || !b;
      case 'W': return value || !a && !b;
      default: return true;
    }
  }

  /** Letters by state and choice, next states likewise; null if there are too many truths to go through. */
  Boolean hasWord(int[][] letters, int[][] next, List<Integer> holding, List<Integer> failing) {
    List<Integer> temporal = new ArrayList<>();
    for (int f : holding) collect(f, temporal);
    for (int f : failing) collect(f, temporal);
    if (temporal.size() > 9) return null;
    int choices = letters[0].length;
    int truths = 1 << temporal.size();
    int nodes = letters.length * choices * truths;
    int[][] preds = new int[nodes][];
    boolean[][] fairs = new boolean[temporal.size() + 1][nodes];
    for (int s = 0; s < letters.length; s++) for (int c = 0; c < choices; c++) for (int v = 0; v < truths; v++) {
      int node = (s * choices + c) * truths + v;
      int[] list = new int[letters.length * choices];
      int n = 0;
      for (int q = 0; q < letters.length; q++) for (int d = 0; d < choices; d++) {
        if (next[q][d] == s) {
          list[n++] = (q * choices + d) * truths + before(letters[q][d], letters[s][c], v, temporal);
        }
      }
      preds[node] = Arrays.copyOf(list, n);
      fairs[temporal.size()][node] = true;
      for (int i = 0; i < temporal.size(); i++) fairs[i][node] = fair(i, letters[s][c], v, temporal);
    }
    boolean[] kept = new boolean[nodes];
    Arrays.fill(kept, true);
    boolean changed = true;
    while (changed) {
      changed = false;
      for (boolean[] set : fairs) {
        boolean[] reaching = reaching(preds, kept, set);
        for (int i = 0; i < nodes; i++) if (kept[i] && !reaching[i]) { kept[i] = false; changed = true; }
      }
    }
    boolean[] all = new boolean[nodes];
    Arrays.fill(all, true);
    boolean[] good = reaching(preds, all, kept);
    for (int c = 0; c < choices; c++) for (int v = 0; v < truths; v++) {
      int node = c * truths + v;
      boolean fits = good[node] || kept[node];
      for (int f : holding) fits &= now(f, letters[0][c], v, temporal);
      for (int f : failing) fits &= !now(f, letters[0][c], v, temporal);
      if (fits) return true;
    }
    return false;
  }

  /** The kept nodes with a way of one step or more, among kept ones, to a kept one of the set. */
  static boolean[] reaching(int[][] preds, boolean[] kept, boolean[] set) {
    boolean[] result = new boolean[preds.length];
    int[] todo = new int[preds.length * 2];
    int n = 0;
    for (int i = 0; i < preds.length; i++) if (kept[i] && set[i]) todo[n++] = i;
    while (n > 0) {
      int node = todo[--n];
      for (int p : preds[node]) if (kept[p] && !result[p]) {
        result[p] = true;
        if (!(set[p])) todo[n++] = p;
      }
    }
    return result;
  }

  Boolean canHold(List<Integer> holding, List<Integer> failing) {
    int[][] letters = new int[1][1 << inputs + outputs];
    for (int i = 0; i < letters[0].length; i++) letters[0][i] = i;
    return hasWord(letters, new int[1][letters[0].length], holding, failing);
  }

  // ---- machines, all of them

  boolean isWell(int[] word, int loop, List<Integer> assumptions, List<Integer> wishes) {
    for (int f : assumptions) if (!at(f, word, loop, 0)) return true;
    for (int f : wishes) if (!at(f, word, loop, 0)) return false;
    return true;
  }

  /** The word of a run by letters of which those from the place back on repeat: { loop, letters.. }. */
  int[] play(Rows m, int[] letters, int back) {
    List<Integer> seen = new ArrayList<>();
    List<Integer> word = new ArrayList<>();
    int state = 0;
    int turn = 0;
    while (!seen.contains(turn * 2 + state)) {
      seen.add(turn * 2 + state);
      word.add(whole(m, state, letters[turn]));
      state = m.next[state][letters[turn]];
      turn = turn + 1 < letters.length ? turn + 1 : back;
    }
    int[] result = new int[word.size() + 1];
    result[0] = seen.indexOf(turn * 2 + state);
    for (int i = 0; i < word.size(); i++) result[i + 1] = word.get(i);
    return result;
  }

  /** Whether it is right; null if that is too dear to tell. */
  Boolean isRight(Rows m, List<Integer> assumptions, List<Integer> wishes) {
    int choices = m.next[0].length;
    for (int n = 1; n <= 3; n++) for (int back = Math.max(0, n - 2); back < n; back++) {
      for (int code = 0; code < Math.pow(choices, n); code++) {
        int[] letters = new int[n];
        for (int i = 0, rest = code; i < n; i++, rest /= choices) letters[i] = rest % choices;
        int[] word = play(m, letters, back);
        boolean well = isWell(Arrays.copyOfRange(word, 1, word.length), word[0], assumptions, wishes);
        if (well == m.environment) return false;
      }
    }
    int[][] letters = new int[m.next.length][choices];
    for (int s = 0; s < letters.length; s++) for (int c = 0; c < choices; c++) letters[s][c] = whole(m, s, c);
    if (m.environment) {
      for (int f : assumptions) {
        Boolean word = hasWord(letters, m.next, List.of(), List.of(f));
        if (word == null || word) return word == null ? null : false;
      }
      Boolean word = hasWord(letters, m.next, wishes, List.of());
      return word == null ? null : !word;
    }
    for (int f : wishes) {
      Boolean word = hasWord(letters, m.next, assumptions, List.of(f));
      if (word == null || word) return word == null ? null : false;
    }
    return true;
  }

  /** Numbers of the rows of machines, and how far each goes. */
  int[] bases(boolean environment, int size) {
    List<Integer> bases = new ArrayList<>();
    for (int s = 0; s < size; s++) {
      if (environment) bases.add(1 << inputs);
      for (int c = 0; c < 1 << (environment ? outputs : inputs); c++) {
        if (!environment) bases.add(1 << outputs);
        bases.add(size);
      }
    }
    return bases.stream().mapToInt(i -> i).toArray();
  }

  Rows rows(boolean environment, int size, int[] digits) {
    int choices = 1 << (environment ? outputs : inputs);
    Rows m = new Rows(environment, new int[size][environment ? 1 : choices], new int[size][choices]);
    int at = 0;
    for (int s = 0; s < size; s++) {
      if (environment) m.gives[s][0] = digits[at++];
      for (int c = 0; c < choices; c++) {
        if (!environment) m.gives[s][c] = digits[at++];
        m.next[s][c] = digits[at++];
      }
    }
    return m;
  }

  static final class TooDear extends RuntimeException { }

  Rows first(boolean environment, int size, List<Integer> assumptions, List<Integer> wishes) {
    int[] bases = bases(environment, size);
    int[] digits = new int[bases.length];
    while (true) {
      Rows m = rows(environment, size, digits);
      Boolean right = isRight(m, assumptions, wishes);
      if (right == null) throw new TooDear();
      if (right) return m;
      int at = digits.length - 1;
      while (at >= 0 && ++digits[at] == bases[at]) digits[at--] = 0;
      if (at < 0) return null;
    }
  }

  Rows judge(List<Integer> assumptions, List<Integer> wishes) {
    for (int size = 1; size <= 2; size++) {
      Rows m = size == 1 || inputs == 1 ? first(false, size, assumptions, wishes) : null;
      if (m == null) m = first(true, size, assumptions, wishes);
      if (m != null) return m;
    }
    return null;
  }

  List<Integer> core() {
    for (int size = 0; size <= wished.size(); size++) {
      List<Integer> best = null;
      for (int set = 0; set < 1 << wished.size(); set++) {
        if (Integer.bitCount(set) == size) {
          List<Integer> numbers = new ArrayList<>();
          List<Integer> some = new ArrayList<>();
          for (int i = 0; i < wished.size(); i++) if ((set >> i & 1) == 1) { numbers.add(i); some.add(wished.get(i)); }
          boolean earlier = best == null || numbers.toString().compareTo(best.toString()) < 0;
          Rows m = earlier ? judge(assumed, some) : null;
          if (m != null && m.environment) best = numbers;
        }
      }
      if (best != null) return best;
    }
    return null;
  }

  // ---- the comparison

  static int wrong = 0;
  static int dear = 0;
  static int compared = 0;

  static void due(String what, Object got, Object want) {
    compared++;
    if (!got.equals(want)) {
      wrong++;
      System.out.println(what + " answered " + got + ", due is " + want);
    }
  }

  String show(int formula) {
    int[] f = formulas.get(formula);
    String k = "" + (char) f[0];
    if ("tf".contains(k)) return k;
    if ("io".contains(k)) return k + f[1];
    if ("!XFG".contains(k)) return k + show(f[1]);
    return "(" + show(f[1]) + k + show(f[2]) + ")";
  }

  static char letterOf(Rows m) {
    return m == null ? '?' : m.environment ? 'e' : 'c';
  }

  static void run(int number) {
    Random random = new Random(number);
    int inputs = 1 + random.nextInt(2);
    int outputs = 1 + random.nextInt(2);
    ParityforgeReference r = new ParityforgeReference(inputs, outputs);
    Parityforge p = new Parityforge(inputs, outputs);
    for (int tries = 0; tries < 300 && r.formulas.size() < 30; tries++) {
      char kind = tries < 5 ? "iioot".charAt(tries) : KINDS.charAt(random.nextInt(KINDS.length()));
      int n = r.formulas.size();
      int a = kind == 'i' || kind == 'o' ? random.nextInt(2) : n == 0 ? 0 : random.nextInt(n);
      int b = n == 0 ? 0 : random.nextInt(n);
      try {
        due("formula", p.formula(kind, a, b), n);
        r.formulas.add(new int[] {kind, a, b});
      } catch (IllegalArgumentException | IndexOutOfBoundsException | UnsupportedOperationException e) {
        continue;
      }
    }
    // Wishes that hang on letters from place to place, so that small machines often just do, or do not.
    for (int tries = 0; number % 2 == 1 && tries < 60 && r.formulas.size() < 58; tries++) {
      int n = r.formulas.size();
      int f = random.nextInt(n);
      int g = random.nextInt(n);
      char kind = tries % 3 == 0 ? "X>|".charAt(random.nextInt(3)) : "GGWU".charAt(random.nextInt(4));
      if (p.size(f) + (kind == 'X' || kind == 'G' ? 0 : p.size(g)) < 8) {
        due("formula", p.formula(kind, f, g), n);
        r.formulas.add(new int[] {kind, f, g});
      }
    }
    String name = "run " + number + " " + inputs + " " + outputs;
    int n = r.formulas.size();
    for (int i = 0; i < 6; i++) {
      int f = random.nextInt(n);
      int g = random.nextInt(n);
      Boolean can = r.canHold(List.of(f), List.of());
      Boolean fail = r.canHold(List.of(), List.of(f));
      Boolean parts = r.canHold(List.of(f), List.of(g));
      if (can != null) due(name + " canBe " + r.show(f), p.canBe(f), can);
      if (fail != null) due(name + " isValid " + r.show(f), p.isValid(f), !fail);
      if (parts != null) due(name + " follows " + r.show(f) + " " + r.show(g), p.follows(f, g), !parts);
    }
    compareWords(name, r, p, random);
    for (int i = random.nextInt(3); i > 0; i--) {
      int f = Math.max(random.nextInt(n), random.nextInt(n));
      p.assume(f);
      r.assumed.add(f);
      name += " A " + r.show(f);
    }
    for (int i = 1 + random.nextInt(4); i > 0; i--) {
      int f = Math.max(random.nextInt(n), random.nextInt(n));
      p.wish(f);
      r.wished.add(f);
      name += " W " + r.show(f);
    }
    try {
      compareFound(name, r, p, random);
    } catch (TooDear e) {
      dear++;
    }
    due(name + " isTrue", p.isTrue(), true);
  }

  static void compareWords(String name, ParityforgeReference r, Parityforge p, Random random) {
    int length = 1 + random.nextInt(6);
    int[] word = new int[length];
    for (int i = 0; i < length; i++) {
      word[i] = random.nextInt(1 << r.inputs + r.outputs);
      p.letter(word[i]);
    }
    int loop = random.nextInt(length);
    p.setLoop(loop);
    for (int i = 0; i < 8; i++) {
      int f = random.nextInt(r.formulas.size());
      int place = random.nextInt(12);
      due(name + " holds " + r.show(f) + " " + Arrays.toString(word) + " " + loop + " at " + place,
          p.holds(f, place), r.at(f, word, loop, place));
    }
  }

  static void compareFound(String name, ParityforgeReference r, Parityforge p, Random random) {
    Rows m = r.judge(r.assumed, r.wished);
    due(name + " verdict", p.verdict(), letterOf(m));
    due(name + " states", p.states(), m == null ? 0 : m.next.length);
    if (m != null && p.states() == m.next.length) {
      int choices = m.next[0].length;
      p.begin();
      int state = 0;
      for (int s = 0; s < m.next.length; s++) for (int c = 0; c < choices; c++) {
        due(name + " given " + s + " " + c, p.given(s, c), m.gives[s][m.environment ? 0 : c]);
        due(name + " next " + s + " " + c, p.next(s, c), m.next[s][c]);
      }
      for (int i = 0; i < 5; i++) {
        int c = random.nextInt(choices);
        due(name + " step", p.step(c), m.gives[state][m.environment ? 0 : c]);
        state = m.next[state][c];
        due(name + " state", p.state(), state);
      }
      int[] two = {random.nextInt(choices), random.nextInt(choices)};
      int[] word = r.play(m, two, 0);
      due(name + " replay", p.replay(two[0], two[1]), word.length - 1);
      int f = random.nextInt(r.formulas.size());
      due(name + " holds after replay", p.holds(f, 3),
          r.at(f, Arrays.copyOfRange(word, 1, word.length), word[0], 3));
      due(name + " steps", p.steps(), 5);
    }
    if (m != null && m.environment) {
      List<Integer> core = r.core();
      due(name + " core", p.core(), core.size());
      for (int i = 0; i < core.size() && i < p.core(); i++) due(name + " coreAt " + i, p.coreAt(i), core.get(i));
    }
    for (int i = 0; i < 2; i++) {
      int f = random.nextInt(r.formulas.size());
      List<Integer> more = new ArrayList<>(r.assumed);
      more.add(f);
      due(name + " verdictWith " + r.show(f), p.verdictWith(f), letterOf(r.judge(more, r.wished)));
    }
    due(name + " verdict again", p.verdict(), letterOf(m));
  }

  public static void main(String[] args) {
    int from = args.length > 0 ? Integer.parseInt(args[0]) : 1;
    int many = args.length > 1 ? Integer.parseInt(args[1]) : 400;
    for (int i = from; i < from + many; i++) run(i);
    System.out.println(compared + " answers compared, " + wrong + " not as due, " + dear + " runs too dear to judge");
    if (wrong != 0) System.exit(1);
  }
}
