import java.util.ArrayList;
import java.util.List;

/**
 * Makers in several states, empty, in use and full: no refused call and no call that only asks changes anything,
 * as all that can be told of a maker with the call and of one without it is alike.
 */
public final class ParityforgeUnchanged {
  interface Act { Object on(Parityforge p); }

  static final int[] NUMBERS = {
    Integer.MIN_VALUE, Integer.MIN_VALUE + 1, -2, -1, 0, 1, 2, 3, 4, 5, 7, 8, 11, 12, 15, 16, 59, 60, 61, 99, 100,
    Integer.MAX_VALUE - 1, Integer.MAX_VALUE
  };

  static int wrong = 0;
  static int compared = 0;
  static int refusals = 0;
  static final List<Act> asking = new ArrayList<>();
  static final List<Act> changing = new ArrayList<>();
  static final List<String> asked = new ArrayList<>();
  static final List<String> changed = new ArrayList<>();

  static void ask(String name, Act act) {
    asking.add(act);
    asked.add(name);
  }

  static void change(String name, Act act) {
    changing.add(act);
    changed.add(name);
  }

  static void listCalls() {
    ask("verdict", Parityforge::verdict);
    ask("states", Parityforge::states);
    ask("core", Parityforge::core);
    ask("state", Parityforge::state);
    ask("steps", Parityforge::steps);
    ask("sum", Parityforge::sum);
    ask("wonShare", Parityforge::wonShare);
    ask("meanSize", Parityforge::meanSize);
    ask("isTrue", Parityforge::isTrue);
    change("begin", Parityforge::begin);
    for (int n : NUMBERS) {
      ask("size " + n, p -> p.size(n));
      ask("canBe " + n, p -> p.canBe(n));
      ask("isValid " + n, p -> p.isValid(n));
      ask("coreAt " + n, p -> p.coreAt(n));
      ask("verdictWith " + n, p -> p.verdictWith(n));
      ask("winner " + n, p -> p.winner(n));
      ask("winnerAnew " + n, p -> p.winnerAnew(n));
      ask("won " + n, p -> p.won(n));
      ask("move " + n, p -> p.move(n));
      ask("lasting " + n, p -> p.lasting(n));
      change("letter " + n, p -> p.letter(n));
      change("setLoop " + n, p -> p.setLoop(n));
      change("assume " + n, p -> p.assume(n));
      change("wish " + n, p -> p.wish(n));
      change("step " + n, p -> p.step(n));
      for (int m : new int[] {Integer.MIN_VALUE, -1, 0, 1, 2, 7, 8, 12, 59, 60, 99, 100, Integer.MAX_VALUE}) {
        listPairs(n, m);
      }
    }
    for (char kind = 0; kind < 256; kind++) {
      char of = kind;
      for (int[] ab : new int[][] {{0, 0}, {2, 0}, {0, 60}, {-1, -1}, {7, 7}, {59, 7}}) {
        change("formula " + (int) of + " " + ab[0] + " " + ab[1], p -> p.formula(of, ab[0], ab[1]));
      }
    }
  }

  static void listPairs(int n, int m) {
    ask("follows " + n + " " + m, p -> p.follows(n, m));
    ask("holds " + n + " " + m, p -> p.holds(n, m));
    ask("given " + n + " " + m, p -> p.given(n, m));
    ask("next " + n + " " + m, p -> p.next(n, m));
    change("replay " + n + " " + m, p -> p.replay(n, m));
    change("node " + n + " " + m, p -> p.node(n, m));
    change("edge " + n + " " + m, p -> p.edge(n, m, true));
    change("edge away " + n + " " + m, p -> p.edge(n, m, false));
    change("setPriority " + n + " " + m, p -> p.setPriority(n, m));
  }

  // ---- the states

  static Parityforge made(int state) {
    Parityforge p = new Parityforge(state % 2 + 1, state / 2 % 2 + 1);
    if (state == 0) return p;
    p.formula('i', 0, 0);
    p.formula('o', 0, 0);
    for (int i = 2; i < 8; i++) p.formula("XFG!XF".charAt(i - 2), i - 2, 0);
    p.formula('f', 0, 0);
    p.formula('t', 0, 0);
    if (state == 1 || state == 2) someOfAll(p, state);
    if (state == 3 || state == 4) fullOfAll(p, state == 3 ? 8 : 1);
    if (state == 5) nothingFound(p);
    return p;
  }

  /** A run of a controller, or of an environment, two letters, and a game. */
  static void someOfAll(Parityforge p, int state) {
    p.assume(9);
    p.wish(state == 1 ? 1 : 4);
    p.wish(1);
    p.letter(1);
    p.letter(2);
    p.setLoop(1);
    p.node(0, 3);
    p.node(1, 4);
    p.edge(0, 1, true);
    p.edge(1, 0, true);
    p.begin();
    p.step(1);
    p.step(0);
  }

  static void fullOfAll(Parityforge p, int wish) {
    for (int i = 10; i < 60; i++) p.formula('U', 0, 1);
    p.assume(9);
    p.assume(9);
    for (int i = 0; i < 4; i++) p.wish(i == 2 ? wish : 9);
    for (int i = 0; i < 12; i++) p.letter(i % 4);
    p.setLoop(7);
    for (int i = 0; i < 12; i++) p.node(i % 2, i % 8);
    for (int i = 0; i < 12; i++) {
      p.edge(i, (i + 5) % 12, true);
      p.edge(i, (i + 1) % 12, true);
    }
    p.begin();
    for (int i = 0; i < 5; i++) p.step(i % 2);
  }

  /** As the first input is, so is o always: nothing is found; and a node has no edge. */
  static void nothingFound(Parityforge p) {
    int always = p.formula('G', 1, 0);
    int not = p.formula('!', 1, 0);
    int never = p.formula('G', not, 0);
    p.wish(p.formula('|', p.formula('!', 0, 0), p.formula('X', always, 0)));
    p.wish(p.formula('|', 0, p.formula('X', never, 0)));
    p.letter(0);
    p.node(0, 0);
    p.node(0, 1);
    p.edge(0, 1, true);
  }

  // ---- all that can be told, what takes away coming last

  static String all(Parityforge p) {
    StringBuilder s = new StringBuilder();
    tell(s, p, Parityforge::state);
    tell(s, p, Parityforge::steps);
    tell(s, p, Parityforge::verdict);
    tell(s, p, Parityforge::states);
    tell(s, p, Parityforge::core);
    tell(s, p, Parityforge::meanSize);
    tell(s, p, Parityforge::sum);
    tell(s, p, Parityforge::wonShare);
    for (int i = 0; i < 62; i++) tellOf(s, p, i);
    tell(s, p, q -> q.step(0));
    tell(s, p, Parityforge::steps);
    for (int f = 0; f < 12; f++) {
      int of = f;
      for (int place = 0; place < 26; place++) {
        int at = place;
        tell(s, p, q -> q.holds(of, at));
      }
    }
    tell(s, p, q -> q.setLoop(0));
    tell(s, p, q -> q.letter(0));
    tell(s, p, Parityforge::clearWord);
    for (int from = 0; from < 13; from++) {
      int of = from;
      for (int to = 0; to < 13; to++) {
        int at = to;
        tell(s, p, q -> q.edge(of, at, false));
      }
      tell(s, p, q -> q.setPriority(of, 0));
    }
    tell(s, p, Parityforge::clearGame);
    tell(s, p, q -> q.assume(9));
    tell(s, p, Parityforge::drop);
    tell(s, p, q -> q.formula('t', 0, 0));
    return s.toString();
  }

  static void tellOf(StringBuilder s, Parityforge p, int i) {
    tell(s, p, q -> q.size(i));
    tell(s, p, q -> q.coreAt(i));
    tell(s, p, q -> q.winner(i));
    tell(s, p, q -> q.move(i));
    tell(s, p, q -> q.lasting(i));
    if (i < 12) tell(s, p, q -> q.canBe(i));
    for (int letter = 0; letter < 4 && i < 3; letter++) {
      int with = letter;
      tell(s, p, q -> q.given(i, with));
      tell(s, p, q -> q.next(i, with));
    }
  }

  static void tell(StringBuilder s, Parityforge p, Act act) {
    s.append(answer(p, act)).append(' ');
  }

  static String answer(Parityforge p, Act act) {
    try {
      return "" + act.on(p);
    } catch (RuntimeException e) {
      return e.getClass().getSimpleName();
    }
  }

  public static void main(String[] args) {
    listCalls();
    for (int state = 0; state < 6; state++) {
      String due = all(made(state));
      for (int i = 0; i < asking.size(); i++) {
        Parityforge p = made(state);
        answer(p, asking.get(i));
        compare(state, asked.get(i), p, due);
      }
      for (int i = 0; i < changing.size(); i++) {
        Parityforge p = made(state);
        if (answer(p, changing.get(i)).endsWith("Exception")) {
          refusals++;
          compare(state, changed.get(i), p, due);
        }
      }
      // All that only asks, one after the other, more than once.
      Parityforge p = made(state);
      for (int i = 0; i < 130; i++) answer(p, asking.get(i * 37 % asking.size()));
      compare(state, "all that asks", p, due);
    }
    System.out.println(compared + " makers compared, " + refusals + " refusals among them, " + wrong + " not alike");
    if (wrong != 0 || refusals < 1000) System.exit(1);
  }

  static void compare(int state, String call, Parityforge p, String due) {
    compared++;
    if (!all(p).equals(due)) {
      wrong++;
      System.out.println("in the state " + state + " something is changed by " + call);
    }
  }
}
