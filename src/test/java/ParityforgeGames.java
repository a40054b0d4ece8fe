import java.util.NoSuchElementException;
import java.util.Random;

/**
 * Compares games of Parityforge with a plain solver that tries all choices of the player 0 for all nodes.
 * Arguments: the first game and the number of games.
 */
public final class ParityforgeGames {
  static int wrong = 0;
  static int compared = 0;

  static void due(String what, Object got, Object want) {
    compared++;
    if (!got.equals(want)) {
      wrong++;
      System.out.println(what + " answered " + got + ", due is " + want);
    }
  }

  int n;
  int[] owner = new int[12];
  int[] priority = new int[12];
  boolean[][] edge = new boolean[12][12];

  boolean complete() {
    for (int i = 0; i < n; i++) if (lowest(i) < 0) return false;
    return true;
  }

  int lowest(int node) {
    for (int i = 0; i < n; i++) if (edge[node][i]) return i;
    return -1;
  }

  long strategies() {
    long product = 1;
    for (int i = 0; i < n; i++) if (owner[i] == 0) {
      int degree = 0;
      for (int k = 0; k < n; k++) if (edge[i][k]) degree++;
      product *= degree;
    }
    return product;
  }

  /** Who wins each node: the player 0, if by some choice no loop with a greatest odd priority is reached. */
  int[] winners() {
    int[] choice = new int[n];
    for (int i = 0; i < n; i++) choice[i] = owner[i] == 0 ? lowest(i) : -1;
    int[] result = new int[n];
    for (int i = 0; i < n; i++) result[i] = 1;
    while (true) {
      boolean[] bad = beaten(choice);
      for (int i = 0; i < n; i++) if (!bad[i]) result[i] = 0;
      int at = n - 1;
      while (at >= 0) {
        if (choice[at] >= 0) {
          int to = choice[at] + 1;
          while (to < n && !edge[at][to]) to++;
          choice[at] = to < n ? to : lowest(at);
          if (to < n) break;
        }
        at--;
      }
      if (at < 0) return result;
    }
  }

  boolean[] beaten(int[] choice) {
    boolean[][] reach = new boolean[n][n];
    for (int i = 0; i < n; i++) for (int k = 0; k < n; k++) {
      reach[i][k] = choice[i] >= 0 ? choice[i] == k : edge[i][k];
    }
    boolean[][] any = closure(reach, 8);
    boolean[] bad = new boolean[n];
    for (int d = 1; d < 8; d += 2) {
      boolean[][] low = closure(reach, d);
      for (int i = 0; i < n; i++) if (priority[i] == d && low[i][i]) {
        bad[i] = true;
        for (int k = 0; k < n; k++) bad[k] |= any[k][i];
      }
    }
    return bad;
  }

  /** Whether there is a way of one step or more among nodes of priorities up to a greatest one. */
  boolean[][] closure(boolean[][] step, int greatest) {
    boolean[][] way = new boolean[n][n];
    for (int i = 0; i < n; i++) for (int k = 0; k < n; k++) {
      way[i][k] = step[i][k] && priority[i] <= greatest && priority[k] <= greatest;
    }
    for (int m = 0; m < n; m++) for (int i = 0; i < n; i++) for (int k = 0; k < n; k++) {
      way[i][k] |= way[i][m] && way[m][k];
    }
    return way;
  }

  int[] moves(int[] won) {
    int[] result = new int[n];
    for (int player = 0; player < 2; player++) {
      boolean[][] kept = new boolean[12][];
      for (int i = 0; i < 12; i++) kept[i] = edge[i].clone();
      for (int v = 0; v < n; v++) if (won[v] == player && owner[v] == player) {
        boolean[] before = edge[v].clone();
        for (int w = 0; w < n; w++) if (before[w]) {
          edge[v] = new boolean[12];
          edge[v][w] = true;
          int[] now = winners();
          boolean all = true;
          for (int i = 0; i < n; i++) all &= won[i] != player || now[i] == player;
          if (all) { result[v] = w; break; }
        }
      }
      edge = kept;
    }
    return result;
  }

  static void run(int number) {
    Random random = new Random(number);
    ParityforgeGames r = new ParityforgeGames();
    Parityforge p = new Parityforge(1, 1);
    int many = random.nextInt(number % 4 == 0 ? 13 : 7);
    int priorities = 1 + random.nextInt(8);
    String name = "game " + number;
    for (int i = 0; i < many; i++) {
      r.owner[i] = random.nextInt(2);
      r.priority[i] = random.nextInt(priorities);
      due(name + " node", p.node(r.owner[i], r.priority[i]), i);
      r.n++;
    }
    for (int round = 0; round < 3; round++) {
      for (int i = 0; i < many * 2 && many > 0; i++) {
        int a = round == 0 && i < many ? i : random.nextInt(many);
        int b = random.nextInt(many);
        boolean is = random.nextInt(6) > 0;
        due(name + " edge", p.edge(a, b, is), r.edge[a][b]);
        r.edge[a][b] = is;
        if (random.nextInt(5) == 0) {
          int to = random.nextInt(8);
          due(name + " setPriority", p.setPriority(a, to), r.priority[a]);
          r.priority[a] = to;
        }
      }
      for (int i = 0; i < many; i++) if (r.lowest(i) < 0 && random.nextInt(8) > 0) {
        p.edge(i, i, true);
        r.edge[i][i] = true;
      }
      if (r.strategies() <= 300) r.compare(name + "." + round, p);
    }
    due(name + " clearGame", p.clearGame(), many);
    due(name + " sum of nothing", p.sum(), 0L);
  }

  void compare(String name, Parityforge p) {
    if (!complete()) {
      int thrown = 0;
      try { p.winner(0); } catch (IllegalStateException e) { thrown++; }
      try { p.winnerAnew(0); } catch (IllegalStateException e) { thrown++; }
      try { p.won(0); } catch (IllegalStateException e) { thrown++; }
      try { p.move(0); } catch (IllegalStateException e) { thrown++; }
      try { p.lasting(0); } catch (IllegalStateException e) { thrown++; }
      try { p.sum(); } catch (IllegalStateException e) { thrown++; }
      try { p.wonShare(); } catch (IllegalStateException e) { thrown++; }
      due(name + " throws", thrown, 7);
      due(name + " isTrue", p.isTrue(), true);
      return;
    }
    int[] won = winners();
    int[] moves = moves(won);
    int zero = 0;
    long sum = 0;
    for (int i = 0; i < n; i++) {
      zero += 1 - won[i];
      sum += (priority[i] * 10 + won[i]) * (long) Math.pow(100, i % 8);
      due(name + " winner " + i, p.winner(i), won[i]);
      due(name + " winnerAnew " + i, p.winnerAnew(i), won[i]);
      int move = -1;
      try { move = p.move(i); } catch (NoSuchElementException e) { move = -2; }
      due(name + " move " + i, move, won[i] == owner[i] ? moves[i] : -2);
      int at = i;
      for (int k = 0; k < 20; k++) at = won[at] == owner[at] ? moves[at] : lowest(at);
      int greatest = 0;
      for (int k = 0; k < 20; k++) {
        greatest = Math.max(greatest, priority[at]);
        at = won[at] == owner[at] ? moves[at] : lowest(at);
      }
      due(name + " lasting " + i, p.lasting(i), greatest);
    }
    due(name + " won 0", p.won(0), zero);
    due(name + " won 1", p.won(1), n - zero);
    due(name + " sum", p.sum(), sum);
    if (n > 0) due(name + " wonShare", p.wonShare(), (float) zero / (float) n);
    due(name + " isTrue", p.isTrue(), true);
  }

  public static void main(String[] args) {
    int from = args.length > 0 ? Integer.parseInt(args[0]) : 1;
    int many = args.length > 1 ? Integer.parseInt(args[1]) : 3000;
    for (int i = from; i < from + many; i++) run(i);
    System.out.println(compared + " answers compared, " + wrong + " not as due");
    if (wrong != 0) System.exit(1);
  }
}
