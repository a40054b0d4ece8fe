/** For each promise about games the boundaries that its sentences name, what is refused, and what calls leave. */
public final class ParityforgeGameBounds extends ParityforgePromises {
  static final int LEAST = Integer.MIN_VALUE;
  static final int GREATEST = Integer.MAX_VALUE;

  static int[] outside(int bound) {
    return new int[] {-1, bound, LEAST, GREATEST, -2, bound + 1, LEAST + 1, GREATEST - 1, bound + 32, bound - 32};
  }

  /** A game of so many nodes, each with an edge to itself, owned and marked by its number. */
  static Parityforge loops(int nodes) {
    Parityforge p = new Parityforge(1, 1);
    for (int i = 0; i < nodes; i++) {
      p.node(i % 2, i % 8);
      p.edge(i, i, true);
    }
    return p;
  }

  // ---- promises 26 to 29

  static void ownersAndPriorities() {
    for (int nodes : new int[] {0, 1, 11, 12}) {
      Parityforge p = loops(nodes);
      for (int number : outside(2)) {
        refused("26: owner " + number, ILLEGAL, () -> p.node(number, 0));
        refused("26: owner " + number, ILLEGAL, () -> p.node(number, 8));
        refused("32: player " + number, ILLEGAL, () -> p.won(number));
      }
      for (int number : outside(8)) {
        refused("26: priority " + number, ILLEGAL, () -> p.node(0, number));
        refused("26: priority " + number, ILLEGAL, () -> p.node(1, number));
        refused("28: no node ahead of priority " + number, BOUNDS, () -> p.setPriority(nodes, number));
        if (nodes > 0) refused("28: priority " + number, ILLEGAL, () -> p.setPriority(nodes - 1, number));
      }
      due("29: none was added", p.clearGame(), nodes);
    }
    for (int owner = 0; owner < 2; owner++) {
      for (int priority = 0; priority < 8; priority++) {
        Parityforge p = new Parityforge(1, 1);
        due("26: owner " + owner + ", priority " + priority, p.node(owner, priority), 0);
        refused("30: a new node has no edge", STATE, () -> p.winner(0));
        due("27: a loop", p.edge(0, 0, true), false);
        int even = priority % 2;
        due("30: by its priority", p.winner(0), even);
        due("31: by its priority", p.winnerAnew(0), even);
        due("34: its priority", p.lasting(0), priority);
        due("35: its priority and winner", p.sum(), 10L * priority + even);
        due("36: all or none", p.wonShare(), even == 0 ? 1f : 0f);
        if (owner == even) due("33: its own", p.move(0), 0);
        else refused("33: not its owner's", MISSING, () -> p.move(0));
        for (int other = 0; other < 8; other++) {
          due("28: the one before", p.setPriority(0, other), other == 0 ? priority : other - 1);
          due("30: by the new one", p.winner(0), other % 2);
          due("31: by the new one", p.winnerAnew(0), other % 2);
          due("34: the new one", p.lasting(0), other);
        }
      }
    }
  }

  static void twelveNodes() {
    Parityforge p = new Parityforge(1, 1);
    for (int i = 0; i < 12; i++) {
      int has = i;
      for (int node : outside(i)) noSuchNode(p, node, has);
      due("26: its number", p.node(i % 2, i % 8), i);
      due("27: its loop", p.edge(i, i, true), false);
    }
    for (int node : outside(12)) noSuchNode(p, node, 12);
    for (int owner = 0; owner < 2; owner++) {
      for (int priority = 0; priority < 8; priority++) {
        int of = owner;
        int with = priority;
        refused("26: a node more", STATE, () -> p.node(of, with));
      }
    }
    refused("26: out of range ahead of 12", ILLEGAL, () -> p.node(2, 0));
    refused("26: out of range ahead of 12", ILLEGAL, () -> p.node(0, -1));
    due("30: the last one", p.winner(11), 1);
    due("31: the last one", p.winnerAnew(11), 1);
    due("33: the last one", p.move(11), 11);
    due("34: the last one", p.lasting(11), 3);
    due("28: the last one", p.setPriority(11, 7), 3);
    due("29: all 12", p.clearGame(), 12);
    due("29: none any more", p.clearGame(), 0);
    noSuchNode(p, 0, 0);
    due("26: the first one again", p.node(0, 0), 0);
    refused("27: its edges were taken away too", STATE, () -> p.winner(0));
    due("27: they were", p.edge(0, 0, true), false);
    due("29: one", p.clearGame(), 1);
  }

  static void noSuchNode(Parityforge p, int node, int has) {
    String of = " of " + has;
    refused("27: from " + node + of, BOUNDS, () -> p.edge(node, Math.max(has - 1, 0), true));
    refused("27: to " + node + of, BOUNDS, () -> p.edge(Math.max(has - 1, 0), node, true));
    refused("27: both " + node + of, BOUNDS, () -> p.edge(node, node, false));
    refused("28: node " + node + of, BOUNDS, () -> p.setPriority(node, 0));
    refused("28: node " + node + of, BOUNDS, () -> p.setPriority(node, 8));
    refused("30: node " + node + of, BOUNDS, () -> p.winner(node));
    refused("31: node " + node + of, BOUNDS, () -> p.winnerAnew(node));
    refused("33: node " + node + of, BOUNDS, () -> p.move(node));
    refused("34: node " + node + of, BOUNDS, () -> p.lasting(node));
  }

  static void allEdges() {
    Parityforge p = new Parityforge(1, 1);
    for (int i = 0; i < 12; i++) p.node(i % 2, 0);
    for (int from = 0; from < 12; from++) {
      for (int to = 0; to < 12; to++) {
        due("27: not there, not taken away", p.edge(from, to, false), false);
        due("27: not there yet", p.edge(from, to, true), false);
        due("27: there", p.edge(from, to, true), true);
        due("27: there, taken away", p.edge(from, to, false), true);
        due("27: not there any more", p.edge(from, to, true), false);
      }
    }
    due("32: all by 0", p.won(0), 12);
    due("33: the lowest", p.move(10), 0);
    for (int from = 0; from < 12; from++) {
      for (int to = 0; to < 12; to++) due("27: each one was there", p.edge(from, to, false), true);
      refused("30: a node without an edge", STATE, () -> p.winner(0));
    }
  }

  // ---- promises 30 to 36

  static void aNodeWithoutAnEdge() {
    for (int bare = 0; bare < 12; bare += 3) {
      Parityforge p = loops(12);
      due("27: taken away", p.edge(bare, bare, false), true);
      for (int node = 0; node < 12; node++) {
        int of = node;
        refused("30: no edge of " + bare, STATE, () -> p.winner(of));
        refused("31: no edge of " + bare, STATE, () -> p.winnerAnew(of));
        refused("33: no edge of " + bare, STATE, () -> p.move(of));
        refused("34: no edge of " + bare, STATE, () -> p.lasting(of));
      }
      for (int player = 0; player < 2; player++) {
        int of = player;
        refused("32: no edge of " + bare, STATE, () -> p.won(of));
      }
      for (int player : outside(2)) refused("32: no player ahead of no edge", ILLEGAL, () -> p.won(player));
      for (int node : outside(12)) noSuchNode(p, node, 12);
      refused("35: no edge of " + bare, STATE, p::sum);
      refused("36: no edge of " + bare, STATE, p::wonShare);
      due("38: nothing to compare", p.isTrue(), true);
      due("27: put back", p.edge(bare, bare, true), false);
      due("36: six of twelve", p.wonShare(), 0.5f);
      due("38: alike", p.isTrue(), true);
    }
  }

  static void noNodes() {
    Parityforge p = new Parityforge(1, 1);
    for (int round = 0; round < 2; round++) {
      due("32: none", p.won(0), 0);
      due("32: none", p.won(1), 0);
      due("35: nothing", p.sum(), 0L);
      refused("36: no nodes", ARITHMETIC, p::wonShare);
      for (int player : outside(2)) refused("32: player " + player, ILLEGAL, () -> p.won(player));
      for (int node : outside(0)) noSuchNode(p, node, 0);
      due("38: nothing to compare", p.isTrue(), true);
      p.node(0, 0);
      refused("36: a node without an edge", STATE, p::wonShare);
      due("29: one", p.clearGame(), 1);
    }
  }

  /** The winner is by the greatest priority that comes for ever again, whoever owns the nodes. */
  static void greatestForEver() {
    for (int low = 0; low < 8; low++) {
      for (int high = low; high < 8; high++) {
        for (int owners = 0; owners < 4; owners++) {
          Parityforge p = new Parityforge(1, 1);
          p.node(owners & 1, low);
          p.node(owners >> 1, high);
          p.node(0, 7);
          p.edge(0, 1, true);
          p.edge(1, 0, true);
          p.edge(2, 0, true);
          for (int node = 0; node < 3; node++) {
            due("30: by " + low + " and " + high, p.winner(node), high % 2);
            due("31: by " + low + " and " + high, p.winnerAnew(node), high % 2);
            due("34: what comes once does not count", p.lasting(node), high);
          }
          due("32: all", p.won(high % 2), 3);
          due("32: none", p.won(1 - high % 2), 0);
          due("36: all or none", p.wonShare(), high % 2 == 0 ? 1f : 0f);
        }
      }
    }
  }

  /** The owner chooses: a node may go to a loop of each priority. */
  static void choices() {
    for (int owner = 0; owner < 2; owner++) {
      for (int choices = 1; choices < 256; choices++) {
        Parityforge p = new Parityforge(1, 1);
        for (int i = 0; i < 8; i++) {
          p.node(1 - owner, i);
          p.edge(i, i, true);
        }
        p.node(owner, 0);
        int best = -1;
        int lowest = -1;
        for (int i = 7; i >= 0; i--) {
          if ((choices >> i & 1) != 0) {
            p.edge(8, i, true);
            lowest = i;
            best = i % 2 == owner ? i : best;
          }
        }
        due("30: chosen", p.winner(8), best >= 0 ? owner : 1 - owner);
        due("31: chosen", p.winnerAnew(8), best >= 0 ? owner : 1 - owner);
        due("34: where it goes", p.lasting(8), best >= 0 ? best : lowest);
        if (best >= 0) due("33: the lowest that wins", p.move(8), best);
        else refused("33: none wins", MISSING, () -> p.move(8));
      }
    }
  }

  /** A node's move leaves away edges that look good alone, and lower nodes have lost theirs. */
  static void movesByRisingNumbers() {
    // 0 wins only if the game comes to 3 for ever again; 0, 1 and 2 may go round among themselves.
    Parityforge p = new Parityforge(1, 1);
    for (int i = 0; i < 3; i++) p.node(0, 1);
    p.node(0, 2);
    int[][] edges = {{0, 1}, {0, 3}, {1, 0}, {1, 2}, {1, 3}, {2, 0}, {2, 1}, {2, 3}, {3, 0}, {3, 3}};
    for (int[] e : edges) p.edge(e[0], e[1], true);
    due("33: the lowest", p.move(0), 1);
    due("33: not back to 0", p.move(1), 2);
    due("33: not back to 0 nor 1", p.move(2), 3);
    due("33: to 0, which comes back", p.move(3), 0);
    for (int node = 0; node < 4; node++) due("34: by moves", p.lasting(node), 2);
    due("27: the edge from 0 to 3", p.edge(0, 1, false), true);
    due("33: the only one", p.move(0), 3);
    due("33: to 0 now", p.move(1), 0);
    due("33: to 0 now", p.move(2), 0);
    // A node that its owner does not win goes to the lowest one.
    Parityforge q = new Parityforge(1, 1);
    q.node(0, 3);
    q.node(1, 5);
    q.node(1, 4);
    q.edge(0, 1, true);
    q.edge(0, 2, true);
    q.edge(1, 0, true);
    q.edge(2, 0, true);
    q.edge(2, 1, true);
    for (int node = 0; node < 3; node++) due("30: all by 1", q.winner(node), 1);
    refused("33: not its owner's", MISSING, () -> q.move(0));
    due("33: the lowest that wins", q.move(1), 0);
    due("33: not to 0, with which only 4 comes", q.move(2), 1);
    for (int node = 0; node < 3; node++) due("34: by the lowest", q.lasting(node), 5);
  }

  static void sums() {
    for (int nodes = 0; nodes <= 12; nodes++) {
      for (int priority = 0; priority < 8; priority++) {
        Parityforge p = new Parityforge(1, 1);
        long due = 0;
        long weight = 1;
        for (int i = 0; i < nodes; i++) {
          weight = i % 8 == 0 ? 1 : weight * 100;
          p.node(0, priority);
          p.edge(i, i, true);
          due += (priority * 10 + priority % 2) * weight;
        }
        due("35: " + nodes + " of priority " + priority, p.sum(), due);
        if (nodes > 0) due("36: all or none", p.wonShare(), priority % 2 == 0 ? 1f : 0f);
      }
    }
    for (int nodes = 1; nodes <= 12; nodes++) {
      for (int even = 0; even <= nodes; even++) {
        Parityforge p = new Parityforge(1, 1);
        for (int i = 0; i < nodes; i++) {
          p.node(i % 2, i < even ? 6 : 7);
          p.edge(i, i, true);
        }
        due("36: " + even + " of " + nodes, p.wonShare(), (float) even / (float) nodes);
        due("32: of 0", p.won(0), even);
        due("32: of 1", p.won(1), nodes - even);
      }
    }
  }

  /** All 12 nodes, all priorities: the measures of an odd priority count up to all of its nodes. */
  static void fullGames() {
    for (int odd = 1; odd < 8; odd += 2) {
      for (int even = 0; even < 8; even += 2) {
        Parityforge p = new Parityforge(1, 1);
        for (int i = 0; i < 11; i++) p.node(i % 2, odd);
        p.node(1, even);
        for (int i = 0; i < 12; i++) p.edge(i, (i + 1) % 12, true);
        int by = even > odd ? 0 : 1;
        for (int i = 0; i < 12; i++) {
          due("30: a ring of " + odd + " and " + even, p.winner(i), by);
          due("31: a ring of " + odd + " and " + even, p.winnerAnew(i), by);
          due("34: a ring of " + odd + " and " + even, p.lasting(i), Math.max(odd, even));
        }
        due("38: both ways", p.isTrue(), true);
        due("30: a way out of the ring for 1", p.edge(11, 5, true) ? 2 : p.winner(0), by);
        due("31: the same", p.winnerAnew(0), by);
      }
    }
    Parityforge p = new Parityforge(1, 1);
    for (int i = 0; i < 12; i++) p.node(i % 2, i % 8);
    for (int i = 0; i < 12; i++) p.edge(i, (i + 1) % 12, true);
    for (int i = 0; i < 12; i++) {
      due("31: one ring of all", p.winnerAnew(i), 1);
      due("30: one ring of all", p.winner(i), 1);
      due("34: one ring of all", p.lasting(i), 7);
    }
    due("28: without 7", p.setPriority(7, 6), 7);
    for (int i = 0; i < 12; i++) {
      due("31: one ring of all up to 6", p.winnerAnew(i), 0);
      due("30: one ring of all up to 6", p.winner(i), 0);
      due("34: one ring of all up to 6", p.lasting(i), 6);
    }
  }

  // ---- what clearWord, clearGame, drop and replay leave

  static void whatIsLeft() {
    Parityforge p = with(1, 1, 'F', 1, 0, 'G', 0, 0);
    p.assume(0);
    p.wish(2);
    p.letter(2);
    p.letter(1);
    p.setLoop(1);
    p.node(0, 3);
    p.edge(0, 0, true);
    p.begin();
    p.step(1);
    due("9: two", p.clearWord(), 2);
    left(p, 0, 1, 2, 1);
    p.letter(2);
    due("29: one", p.clearGame(), 1);
    left(p, 1, 0, 2, 1);
    p.node(1, 4);
    p.edge(0, 0, true);
    due("25: of the one found", p.replay(0, 0), 2);
    left(p, 2, 1, 2, 1);
    due("13: both", p.drop(), 2);
    left(p, 2, 1, 0, 0);
    due("25: without wishes", p.replay(1, 0), 2);
    left(p, 2, 1, 0, 0);
    due("14: without wishes", p.verdict(), 'c');
  }

  /** What is left, as far as it can be told without taking it away: letters, nodes, wishes and the run. */
  static void left(Parityforge p, int letters, int nodes, int wishes, int runs) {
    due("3: the formulas", p.size(3) + p.meanSize(), 2 + 6.0 / 4.0);
    refused("3: no more", BOUNDS, () -> p.size(4));
    if (letters > 0) due("10: the letters", p.holds(2, 0) || !p.holds(2, 0), true);
    else refused("10: no letters", STATE, () -> p.holds(2, 0));
    refused("8: no more letters", BOUNDS, () -> p.setLoop(letters));
    if (nodes > 0) due("30: the nodes", p.winner(nodes - 1), p.winnerAnew(nodes - 1));
    refused("30: no more nodes", BOUNDS, () -> p.winner(nodes));
    due("16: the wishes", p.given(0, 1), wishes > 0 ? 1 : 0);
    if (runs > 0) due("24: the run", p.steps(), 1);
    else refused("24: no run", STATE, p::steps);
  }

  public static void main(String[] args) {
    ownersAndPriorities();
    twelveNodes();
    allEdges();
    aNodeWithoutAnEdge();
    noNodes();
    greatestForEver();
    choices();
    movesByRisingNumbers();
    sums();
    fullGames();
    whatIsLeft();
    System.out.println(asked + " calls, " + wrong + " not as due");
    if (wrong != 0) System.exit(1);
  }
}
