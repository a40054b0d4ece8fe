import java.util.ArrayList;
import java.util.Arrays;
import java.util.List;
import java.util.NoSuchElementException;
import java.util.Random;

/**
 * Long runs of all calls, with right and wrong arguments, against a model that keeps the state plainly and
 * asks the plain maker and the plain solver. Arguments: the first run and the number of runs.
 */
public final class ParityforgeLongRuns {
  static final String[] CALLS = {
    "formula", "formula", "formula", "formula", "size", "canBe", "isValid", "follows", "letter", "letter", "letter",
    "setLoop", "setLoop", "clearWord", "holds", "holds", "holds", "assume", "wish", "wish", "drop", "verdict",
    "states", "given", "next", "core", "coreAt", "verdictWith", "begin", "step", "step", "step", "state", "steps",
    "replay", "replay", "node", "edge", "edge", "edge", "setPriority", "clearGame", "winner", "winnerAnew", "won",
    "move", "lasting", "sum", "wonShare", "meanSize", "isTrue",
  };

  static int wrong = 0;
  static int asked = 0;

  final ParityforgeReference maker;
  final ParityforgeGames game = new ParityforgeGames();
  final List<Integer> word = new ArrayList<>();
  final int inputs;
  final int outputs;
  int loop;
  boolean judged;
  ParityforgeReference.Rows found;
  boolean going;
  int state;
  int steps;

  ParityforgeLongRuns(int inputs, int outputs) {
    this.inputs = inputs;
    this.outputs = outputs;
    maker = new ParityforgeReference(inputs, outputs);
  }

  static void need(boolean holds, RuntimeException otherwise) {
    if (!holds) throw otherwise;
  }

  static boolean in(int number, int bound) {
    return number >= 0 && number < bound;
  }

  void needFormula(int f) {
    need(in(f, maker.formulas.size()), new IndexOutOfBoundsException());
  }

  int sizeOf(int f) {
    int[] made = maker.formulas.get(f);
    int parts = "tfio".indexOf(made[0]) >= 0 ? 0 : "!XFG".indexOf(made[0]) >= 0 ? 1 : 2;
    return 1 + (parts > 0 ? sizeOf(made[1]) : 0) + (parts > 1 ? sizeOf(made[2]) : 0);
  }

  ParityforgeReference.Rows found() {
    if (!judged) found = maker.judge(maker.assumed, maker.wished);
    judged = true;
    return found;
  }

  Object formula(char kind, int a, int b) {
    int n = maker.formulas.size();
    need("tfio!XFG&|>UWR".indexOf(kind) >= 0, new IllegalArgumentException());
    need(kind != 'i' || in(a, inputs), new IllegalArgumentException());
    need(kind != 'o' || in(a, outputs), new IllegalArgumentException());
    int parts = "tfio".indexOf(kind) >= 0 ? 0 : "!XFG".indexOf(kind) >= 0 ? 1 : 2;
    need(parts < 1 || in(a, n), new IndexOutOfBoundsException());
    need(parts < 2 || in(b, n), new IndexOutOfBoundsException());
    int size = 1 + (parts > 0 ? sizeOf(a) : 0) + (parts > 1 ? sizeOf(b) : 0);
    need(size <= 8, new UnsupportedOperationException());
    need(n < 60, new IllegalStateException());
    maker.formulas.add(new int[] {kind, a, b});
    return n;
  }

  int[] letters() {
    return word.stream().mapToInt(i -> i).toArray();
  }

  void changed() {
    judged = false;
    going = false;
  }

  void needNode(int node) {
    need(in(node, game.n), new IndexOutOfBoundsException());
  }

  void needEdges() {
    need(game.complete(), new IllegalStateException());
  }

  /** What is due, for numbers a and b; exceptions are thrown. */
  Object due(String call, char kind, int a, int b, boolean is) {
    switch (call) {
      case "formula": return formula(kind, a, b);
      case "size": needFormula(a); return sizeOf(a);
      case "canBe": needFormula(a); return maker.canHold(List.of(a), List.of());
      case "isValid": needFormula(a); return !maker.canHold(List.of(), List.of(a));
      case "follows": {
        needFormula(a);
        needFormula(b);
        Boolean can = maker.canHold(List.of(a), List.of(b));
        return can == null ? null : !can;
      }
      case "letter":
        need(in(a, 1 << inputs + outputs), new IllegalArgumentException());
        need(word.size() < 12, new IllegalStateException());
        word.add(a);
        return word.size();
      case "setLoop": {
        need(in(a, word.size()), new IndexOutOfBoundsException());
        int before = loop;
        loop = a;
        return before;
      }
      case "clearWord": {
        int before = word.size();
        word.clear();
        loop = 0;
        return before;
      }
      case "holds":
        needFormula(a);
        need(in(b, 100), new IllegalArgumentException());
        need(!word.isEmpty(), new IllegalStateException());
        return maker.at(a, letters(), loop, b);
      case "meanSize": {
        int n = maker.formulas.size();
        need(n > 0, new ArithmeticException());
        double sum = 0;
        for (int i = 0; i < n; i++) sum += sizeOf(i);
        return sum / n;
      }
      case "isTrue": return true;
      default: return "winner,winnerAnew,won,move,lasting,sum,wonShare,node,edge,setPriority,clearGame".contains(call)
          ? dueOfGame(call, a, b, is) : dueOfFound(call, a, b);
    }
  }

  Object dueOfFound(String call, int a, int b) {
    switch (call) {
      case "assume":
        needFormula(a);
        need(maker.assumed.size() < 2, new IllegalStateException());
        maker.assumed.add(a);
        changed();
        return maker.assumed.size();
      case "wish":
        needFormula(a);
        need(maker.wished.size() < 4, new IllegalStateException());
        maker.wished.add(a);
        changed();
        return maker.wished.size();
      case "drop": {
        int before = maker.assumed.size() + maker.wished.size();
        maker.assumed.clear();
        maker.wished.clear();
        changed();
        return before;
      }
      case "verdictWith": {
        needFormula(a);
        List<Integer> more = new ArrayList<>(maker.assumed);
        more.add(a);
        return ParityforgeReference.letterOf(maker.judge(more, maker.wished));
      }
      case "verdict": return ParityforgeReference.letterOf(found());
      case "states": return found() == null ? 0 : found().next.length;
      case "state": need(going, new IllegalStateException()); return state;
      case "steps": need(going, new IllegalStateException()); return steps;
      default: return dueOfMachine(call, a, b);
    }
  }

  Object dueOfMachine(String call, int a, int b) {
    if (call.equals("step")) need(going, new IllegalStateException());
    ParityforgeReference.Rows m = found();
    need(m != null, new UnsupportedOperationException());
    int choices = m.next[0].length;
    switch (call) {
      case "given":
        need(in(a, m.next.length) && (m.environment || in(b, choices)), new IndexOutOfBoundsException());
        return m.gives[a][m.environment ? 0 : b];
      case "next":
        need(in(a, m.next.length) && in(b, choices), new IndexOutOfBoundsException());
        return m.next[a][b];
      case "core":
        need(m.environment, new UnsupportedOperationException());
        return maker.core().size();
      case "coreAt":
        need(m.environment, new UnsupportedOperationException());
        need(in(a, maker.core().size()), new IndexOutOfBoundsException());
        return maker.core().get(a);
      case "begin":
        going = true;
        state = 0;
        steps = 0;
        return m.next.length;
      case "step": {
        need(in(a, choices), new IllegalArgumentException());
        int answer = m.gives[state][m.environment ? 0 : a];
        state = m.next[state][a];
        steps++;
        return answer;
      }
      default: {
        need(in(a, choices) && in(b, choices), new IllegalArgumentException());
        int[] played = maker.play(m, new int[] {a, b}, 0);
        word.clear();
        loop = played[0];
        for (int i = 1; i < played.length; i++) word.add(played[i]);
        return word.size();
      }
    }
  }

  Object dueOfGame(String call, int a, int b, boolean is) {
    switch (call) {
      case "node":
        need(in(a, 2) && in(b, 8), new IllegalArgumentException());
        need(game.n < 12, new IllegalStateException());
        game.owner[game.n] = a;
        game.priority[game.n] = b;
        return game.n++;
      case "edge": {
        needNode(a);
        needNode(b);
        boolean was = game.edge[a][b];
        game.edge[a][b] = is;
        return was;
      }
      case "setPriority": {
        needNode(a);
        need(in(b, 8), new IllegalArgumentException());
        int before = game.priority[a];
        game.priority[a] = b;
        return before;
      }
      case "clearGame": {
        int before = game.n;
        game.n = 0;
        for (boolean[] row : game.edge) Arrays.fill(row, false);
        return before;
      }
      case "winner": case "winnerAnew": case "move": case "lasting": needNode(a); break;
      case "won": need(in(a, 2), new IllegalArgumentException()); break;
      case "wonShare": need(game.n > 0, new ArithmeticException()); break;
      default: break;
    }
    needEdges();
    if (game.strategies() > 200) return null;
    return dueOfSolved(call, a, game.winners());
  }

  Object dueOfSolved(String call, int a, int[] won) {
    int zero = 0;
    long sum = 0;
    for (int i = 0; i < game.n; i++) {
      zero += 1 - won[i];
      sum += (game.priority[i] * 10 + won[i]) * (long) Math.pow(100, i % 8);
    }
    switch (call) {
      case "winner": case "winnerAnew": return won[a];
      case "won": return a == 0 ? zero : game.n - zero;
      case "sum": return sum;
      case "wonShare": return (float) zero / (float) game.n;
      case "move":
        need(won[a] == game.owner[a], new NoSuchElementException());
        return game.moves(won)[a];
      default: {
        int[] moves = game.moves(won);
        int at = a;
        int greatest = 0;
        for (int i = 0; i < 40; i++) {
          if (i >= 20) greatest = Math.max(greatest, game.priority[at]);
          at = won[at] == game.owner[at] ? moves[at] : game.lowest(at);
        }
        return greatest;
      }
    }
  }

  static Object ask(Parityforge p, String call, char kind, int a, int b, boolean is) {
    switch (call) {
      case "formula": return p.formula(kind, a, b);
      case "size": return p.size(a);
      case "canBe": return p.canBe(a);
      case "isValid": return p.isValid(a);
      case "follows": return p.follows(a, b);
      case "letter": return p.letter(a);
      case "setLoop": return p.setLoop(a);
      case "clearWord": return p.clearWord();
      case "holds": return p.holds(a, b);
      case "assume": return p.assume(a);
      case "wish": return p.wish(a);
      case "drop": return p.drop();
      case "verdict": return p.verdict();
      case "states": return p.states();
      case "given": return p.given(a, b);
      case "next": return p.next(a, b);
      case "core": return p.core();
      case "coreAt": return p.coreAt(a);
      case "verdictWith": return p.verdictWith(a);
      case "begin": return p.begin();
      case "step": return p.step(a);
      case "state": return p.state();
      case "steps": return p.steps();
      case "replay": return p.replay(a, b);
      case "node": return p.node(a, b);
      case "edge": return p.edge(a, b, is);
      case "setPriority": return p.setPriority(a, b);
      case "clearGame": return p.clearGame();
      case "winner": return p.winner(a);
      case "winnerAnew": return p.winnerAnew(a);
      case "won": return p.won(a);
      case "move": return p.move(a);
      case "lasting": return p.lasting(a);
      case "sum": return p.sum();
      case "wonShare": return p.wonShare();
      case "meanSize": return p.meanSize();
      default: return p.isTrue();
    }
  }

  interface Call { Object answer(); }

  static Object answerOf(Call call) {
    try {
      return call.answer();
    } catch (ParityforgeReference.TooDear e) {
      throw e;
    } catch (RuntimeException e) {
      return e.getClass().getSimpleName();
    }
  }

  /** Mostly a number in a range, now and then one next to it or far from it. */
  static int number(Random random, int bound) {
    int which = random.nextInt(40);
    if (which == 0) return bound;
    if (which == 1) return -1;
    if (which == 2) return random.nextBoolean() ? Integer.MAX_VALUE : Integer.MIN_VALUE;
    return bound > 0 ? random.nextInt(bound) : 0;
  }

  static void run(int number) {
    Random random = new Random(number);
    int inputs = 1 + random.nextInt(2);
    int outputs = inputs == 2 ? 1 : 1 + random.nextInt(2);
    ParityforgeLongRuns model = new ParityforgeLongRuns(inputs, outputs);
    Parityforge p = new Parityforge(inputs, outputs);
    StringBuilder log = new StringBuilder("run " + number + ": new " + inputs + " " + outputs);
    for (int i = 0; i < 512; i++) {
      String call = CALLS[random.nextInt(CALLS.length)];
      if (call.equals("drop") && random.nextInt(3) > 0 || call.startsWith("clear") && random.nextInt(3) > 0) continue;
      char kind = random.nextInt(50) == 0 ? (char) random.nextInt(130)
          : ParityforgeReference.KINDS.charAt(random.nextInt(ParityforgeReference.KINDS.length()));
      int[] bounds = bounds(call, kind, model);
      int a = number(random, bounds[0]);
      int b = number(random, bounds[1]);
      boolean is = random.nextInt(6) > 0;
      Object due;
      try {
        due = answerOf(() -> model.due(call, kind, a, b, is));
      } catch (ParityforgeReference.TooDear e) {
        return;
      }
      Object got = answerOf(() -> ask(p, call, kind, a, b, is));
      log.append("; ").append(call).append(call.equals("formula") ? " " + kind : "").append(" ").append(a).append(" ").append(b);
      log.append(" ").append(is).append(" = ").append(got);
      asked++;
      if (due != null && !due.equals(got)) {
        wrong++;
        System.out.println(log + ", due is " + due);
        return;
      }
    }
  }

  static int[] bounds(String call, char kind, ParityforgeLongRuns m) {
    int formulas = m.maker.formulas.size();
    switch (call) {
      case "formula": return kind == 'i' || kind == 'o' ? new int[] {2, 1} : new int[] {formulas, formulas};
      case "letter": return new int[] {1 << m.inputs + m.outputs, 1};
      case "setLoop": return new int[] {m.word.size(), 1};
      case "holds": return new int[] {formulas, 100};
      case "given": case "next": case "step": case "replay": case "coreAt": return new int[] {2, 2};
      case "node": return new int[] {2, 8};
      case "edge": return new int[] {m.game.n, m.game.n};
      case "setPriority": case "winner": case "winnerAnew": case "move": case "lasting": return new int[] {m.game.n, 8};
      case "won": return new int[] {2, 1};
      default: return new int[] {formulas, formulas};
    }
  }

  public static void main(String[] args) {
    int from = args.length > 0 ? Integer.parseInt(args[0]) : 1;
    int many = args.length > 1 ? Integer.parseInt(args[1]) : 100;
    for (int i = from; i < from + many; i++) run(i);
    System.out.println(asked + " calls compared, " + wrong + " not as due");
    if (wrong != 0) System.exit(1);
  }
}
