import java.util.NoSuchElementException;

/** For each promise of the document: ordinary calls, the edges that it names, and wrong calls. */
public class ParityforgePromises {
  interface Call { Object answer(); }

  static final Class<? extends RuntimeException> ILLEGAL = IllegalArgumentException.class;
  static final Class<? extends RuntimeException> BOUNDS = IndexOutOfBoundsException.class;
  static final Class<? extends RuntimeException> UNSUPPORTED = UnsupportedOperationException.class;
  static final Class<? extends RuntimeException> STATE = IllegalStateException.class;
  static final Class<? extends RuntimeException> ARITHMETIC = ArithmeticException.class;
  static final Class<? extends RuntimeException> MISSING = NoSuchElementException.class;

  static int wrong = 0;
  static int asked = 0;

  static void due(String what, Object got, Object want) {
    asked++;
    if (!got.equals(want)) {
      wrong++;
      System.out.println(what + " answered " + got + ", due is " + want);
    }
  }

  static void refused(String what, Class<? extends RuntimeException> want, Call call) {
    asked++;
    String got;
    try {
      got = "" + call.answer();
    } catch (RuntimeException e) {
      got = e.getClass() == want ? null : "throws " + e.getClass().getSimpleName();
    }
    if (got != null) {
      wrong++;
      System.out.println(what + " answered " + got + ", due is throws " + want.getSimpleName());
    }
  }

  /** A maker with i0 = 0, o0 = 1 and what the words name, each of earlier ones. */
  static Parityforge with(int inputs, int outputs, Object... made) {
    Parityforge p = new Parityforge(inputs, outputs);
    p.formula('i', 0, 0);
    p.formula('o', 0, 0);
    for (int i = 0; i < made.length; i += 3) {
      p.formula((Character) made[i], (Integer) made[i + 1], (Integer) made[i + 2]);
    }
    return p;
  }

  static void sizesOfAlphabets() {
    int[][] asked = {{0, 0, 1, 1}, {-5, 9, 1, 2}, {Integer.MIN_VALUE, Integer.MAX_VALUE, 1, 2}, {2, 1, 2, 1}, {3, 2, 2, 2}};
    for (int[] a : asked) {
      Parityforge p = new Parityforge(a[0], a[1]);
      int letters = 1 << a[2] + a[3];
      due("1: the greatest letter", p.letter(letters - 1), 1);
      refused("1: a letter above it", ILLEGAL, () -> p.letter(letters));
      due("1: the last input", p.formula('i', a[2] - 1, 0), 0);
      refused("1: an input above it", ILLEGAL, () -> p.formula('i', a[2], 0));
      due("1: the last output", p.formula('o', a[3] - 1, 0), 1);
      refused("1: an output above it", ILLEGAL, () -> p.formula('o', a[3], 0));
      refused("1: no nodes", BOUNDS, () -> p.winner(0));
      due("1: no wishes", p.drop(), 0);
    }
  }

  static void makingFormulas() {
    Parityforge p = new Parityforge(2, 2);
    refused("2: no part yet", BOUNDS, () -> p.formula('!', 0, 0));
    due("2: t", p.formula('t', -7, 99), 0);
    due("2: f", p.formula('f', 0, 0), 1);
    for (char c = 0; c < 300; c++) {
      char kind = c;
      if ("tfio!&|>XFGUWR".indexOf(c) < 0) refused("2: kind " + (int) c, ILLEGAL, () -> p.formula(kind, 0, 0));
    }
    refused("2: kind ahead of parts", ILLEGAL, () -> p.formula('q', 77, 77));
    refused("2: input -1", ILLEGAL, () -> p.formula('i', -1, 0));
    refused("2: output 2", ILLEGAL, () -> p.formula('o', 2, 0));
    due("2: i1", p.formula('i', 1, -1), 2);
    for (char kind : "!XFG".toCharArray()) {
      refused("2: " + kind + " of none", BOUNDS, () -> p.formula(kind, 3, 0));
      refused("2: " + kind + " of -1", BOUNDS, () -> p.formula(kind, -1, 0));
    }
    for (char kind : "&|>UWR".toCharArray()) {
      refused("2: " + kind + " without first", BOUNDS, () -> p.formula(kind, 3, 0));
      refused("2: " + kind + " without second", BOUNDS, () -> p.formula(kind, 0, 3));
      refused("2: " + kind + " with -1", BOUNDS, () -> p.formula(kind, 0, -1));
    }
    due("2: b has no meaning", p.formula('!', 0, 55), 3);
    due("2: and", p.formula('&', 3, 2), 4);
    due("2: size 8", p.formula('U', 4, 3), 5);
    due("3: size of U", p.size(5), 7);
    due("2: size 8", p.formula('G', 5, 0), 6);
    due("3: size 8", p.size(6), 8);
    refused("2: size 9", UNSUPPORTED, () -> p.formula('X', 6, 0));
    refused("2: size 9 of two", UNSUPPORTED, () -> p.formula('|', 5, 2));
    refused("2: a missing part ahead of the size", BOUNDS, () -> p.formula('|', 6, 7));
    for (int i = 7; i < 60; i++) due("2: number", p.formula('t', 0, 0), i);
    refused("2: 60 formulas", STATE, () -> p.formula('t', 0, 0));
    refused("2: the size ahead of 60", UNSUPPORTED, () -> p.formula('X', 6, 0));
    refused("2: the kind ahead of 60", ILLEGAL, () -> p.formula('Q', 6, 0));
    due("2: changes nothing", p.size(59), 1);
    refused("3: 60", BOUNDS, () -> p.size(60));
    refused("3: -1", BOUNDS, () -> p.size(-1));
    due("3: size of t", p.size(0), 1);
  }

  static void whatAllWordsKeep() {
    Parityforge p = with(1, 1, 'G', 1, 0, '!', 1, 0, 'F', 3, 0, '&', 2, 4, '|', 2, 4, 'X', 1, 0, 'f', 0, 0, 't', 0, 0);
    due("4: G o", p.canBe(2), true);
    due("4: G o and F !o", p.canBe(5), false);
    due("4: f", p.canBe(8), false);
    due("5: G o", p.isValid(2), false);
    due("5: G o or F !o", p.isValid(6), true);
    due("5: t", p.isValid(9), true);
    due("6: G o, o", p.follows(2, 1), true);
    due("6: o, G o", p.follows(1, 2), false);
    due("6: G o, X o", p.follows(2, 7), true);
    due("6: f, anything", p.follows(8, 0), true);
    due("6: anything, t", p.follows(0, 9), true);
    due("6: itself", p.follows(4, 4), true);
    due("6: i, o", p.follows(0, 1), false);
    for (int f : new int[] {-1, 10, Integer.MAX_VALUE, Integer.MIN_VALUE}) {
      refused("4: " + f, BOUNDS, () -> p.canBe(f));
      refused("5: " + f, BOUNDS, () -> p.isValid(f));
      refused("6: from " + f, BOUNDS, () -> p.follows(f, 0));
      refused("6: to " + f, BOUNDS, () -> p.follows(0, f));
    }
    Parityforge q = with(2, 2, 'U', 0, 1, 'W', 0, 1, 'R', 1, 0, 'F', 1, 0, 'G', 0, 0, '|', 2, 6, 'X', 0, 0, 'G', 5, 0);
    due("4: U is W", q.follows(2, 3), true);
    due("4: W is not U", q.follows(3, 2), false);
    due("4: U comes", q.follows(2, 5), true);
    due("6: W is U or G", q.follows(3, 7), true);
    due("6: U or G is W", q.follows(7, 3), true);
    due("6: R holds here", q.follows(4, 0), true);
    due("6: R is no X", q.follows(4, 8), false);
    due("6: G F o is F o", q.follows(9, 5), true);
    due("6: F o is not G F o", q.follows(5, 9), false);
    // A formula that no word of 12 letters tells: X X .. of more places than one loop has is still had.
    Parityforge d = with(1, 1, 'X', 0, 0, 'X', 2, 0, 'X', 3, 0, 'X', 4, 0, 'X', 5, 0, 'X', 6, 0, 'X', 7, 0);
    due("4: seven places on", d.canBe(8), true);
    due("5: seven places on", d.isValid(8), false);
  }

  static void words() {
    Parityforge p = with(1, 1, 'X', 0, 0, 'F', 1, 0, 'G', 0, 0, 'U', 0, 1, 'W', 0, 1, 'R', 1, 0, '!', 0, 0, '>', 0, 1);
    refused("8: no letters", BOUNDS, () -> p.setLoop(0));
    refused("10: no letters", STATE, () -> p.holds(0, 0));
    refused("10: no formula ahead of no letters", BOUNDS, () -> p.holds(10, 0));
    refused("10: place ahead of no letters", ILLEGAL, () -> p.holds(0, 100));
    refused("10: formula ahead of place", BOUNDS, () -> p.holds(-1, 100));
    refused("7: letter 4", ILLEGAL, () -> p.letter(4));
    refused("7: letter -1", ILLEGAL, () -> p.letter(-1));
    due("9: none", p.clearWord(), 0);
    // i, i, nothing, o; from the place 2 on again
    due("7: first", p.letter(1), 1);
    due("7: second", p.letter(1), 2);
    due("7: third", p.letter(0), 3);
    due("7: fourth", p.letter(2), 4);
    due("8: before", p.setLoop(2), 0);
    due("8: before", p.setLoop(2), 2);
    refused("8: place 4", BOUNDS, () -> p.setLoop(4));
    refused("8: place -1", BOUNDS, () -> p.setLoop(-1));
    String[] due = {
      "110000", // i
      "000101", // o
      "100000", // X i
      "111111", // F o
      "000000", // G i
      "000101", // i U o
      "000101", // i W o
      "000000", // o R i
      "001111", // ! i
      "001111", // i > o
    };
    for (int f = 0; f < due.length; f++) {
      for (int place = 0; place < 6; place++) {
        due("10: formula " + f + " at " + place, p.holds(f, place), due[f].charAt(place) == '1');
      }
      due("10: formula " + f + " at 99", p.holds(f, 99), due[f].charAt(3) == '1');
      due("10: formula " + f + " at 98", p.holds(f, 98), due[f].charAt(2) == '1');
    }
    refused("10: place 100", ILLEGAL, () -> p.holds(0, 100));
    refused("10: place -1", ILLEGAL, () -> p.holds(0, -1));
    refused("10: no formula", BOUNDS, () -> p.holds(10, -1));
    for (int i = 5; i <= 12; i++) due("7: more", p.letter(3), i);
    refused("7: 12 letters", STATE, () -> p.letter(0));
    refused("7: no such letter ahead of 12", ILLEGAL, () -> p.letter(4));
    due("8: the last", p.setLoop(11), 2);
    due("10: o R i in all letters from 4 on", p.holds(7, 4), true);
    due("9: all", p.clearWord(), 12);
    due("7: anew", p.letter(0), 1);
    due("8: from 0 on again", p.setLoop(0), 0);
    Parityforge q = with(2, 2);
    q.formula('i', 1, 0);
    q.formula('o', 1, 0);
    q.letter(1 + 8);
    due("10: input 0 is the lowest bit", q.holds(0, 0), true);
    due("10: output 0 is the third bit", q.holds(1, 0), false);
    due("10: input 1 is the second bit", q.holds(2, 0), false);
    due("10: output 1 is the fourth bit", q.holds(3, 0), true);
  }

  static void addingWishes() {
    Parityforge p = with(1, 1, 'G', 1, 0);
    refused("11: none", BOUNDS, () -> p.assume(3));
    refused("12: none", BOUNDS, () -> p.wish(-1));
    due("11: first", p.assume(0), 1);
    due("11: second", p.assume(0), 2);
    refused("11: third", STATE, () -> p.assume(0));
    refused("11: no formula ahead of third", BOUNDS, () -> p.assume(3));
    for (int i = 1; i <= 4; i++) due("12: wish", p.wish(2), i);
    refused("12: fifth", STATE, () -> p.wish(2));
    refused("12: no formula ahead of fifth", BOUNDS, () -> p.wish(3));
    due("13: all", p.drop(), 6);
    due("13: again", p.drop(), 0);
    due("11: anew", p.assume(1), 1);
    due("12: anew", p.wish(1), 1);
    due("13: both", p.drop(), 2);
  }

  static void verdicts() {
    Parityforge p = with(1, 1, '>', 0, 1, 'G', 2, 0, 'f', 0, 0, '!', 0, 0, 'G', 5, 0, 'X', 0, 0, '>', 1, 7, '>', 7, 1,
        'G', 8, 0, 'G', 9, 0);
    due("14: no wishes", p.verdict(), 'c');
    due("15: no wishes", p.states(), 1);
    due("16: no wishes", p.given(0, 1), 0);
    refused("18: no environment", UNSUPPORTED, p::core);
    refused("19: no environment", UNSUPPORTED, () -> p.coreAt(0));
    p.wish(3);
    due("14: G (i > o)", p.verdict(), 'c');
    due("16: without input", p.given(0, 0), 0);
    due("16: with input", p.given(0, 1), 1);
    due("17: stays", p.next(0, 1), 0);
    refused("16: state 1", BOUNDS, () -> p.given(1, 0));
    refused("16: state -1", BOUNDS, () -> p.given(-1, 0));
    refused("16: letter 2", BOUNDS, () -> p.given(0, 2));
    refused("16: letter -1", BOUNDS, () -> p.given(0, -1));
    refused("17: state 1", BOUNDS, () -> p.next(1, 0));
    refused("17: letter 2", BOUNDS, () -> p.next(0, 2));
    due("20: still", p.verdictWith(4), 'c');
    p.wish(4);
    due("14: f", p.verdict(), 'e');
    due("15: f", p.states(), 1);
    due("16: an environment gives", p.given(0, -77), 0);
    refused("16: no state", BOUNDS, () -> p.given(1, 0));
    refused("17: no letter", BOUNDS, () -> p.next(0, 2));
    due("17: an environment goes", p.next(0, 1), 0);
    due("18: f alone", p.core(), 1);
    due("19: f alone", p.coreAt(0), 1);
    refused("19: index 1", BOUNDS, () -> p.coreAt(1));
    refused("19: index -1", BOUNDS, () -> p.coreAt(-1));
    due("20: what is never", p.verdictWith(4), 'c');
    due("20: G !i", p.verdictWith(6), 'e');
    refused("20: none", BOUNDS, () -> p.verdictWith(12));
    refused("20: -1", BOUNDS, () -> p.verdictWith(-1));
    due("14: as before", p.verdict(), 'e');
    p.assume(4);
    p.assume(4);
    due("20: a third one", p.verdictWith(0), 'c');
    p.drop();
    // To tell the next input ahead: no controller can, and an environment waits for the letter.
    p.wish(10);
    p.wish(11);
    due("14: telling ahead", p.verdict(), 'e');
    due("15: telling ahead", p.states(), 2);
    due("18: telling ahead", p.core(), 2);
    due("16: the first input", p.given(0, 0), 0);
    for (int o = 0; o < 2; o++) {
      due("17: to a state whose input is not the one told", p.given(p.next(0, o), 0), 1 - o);
      due("17: behind it the lowest state", p.next(1, o), 0);
    }
  }

  static void largerMachines() {
    // After an input at the place 0 always o, else never: a controller needs two states.
    Parityforge p = with(1, 1, 'G', 1, 0, '!', 1, 0, 'G', 3, 0, '!', 0, 0, '|', 5, 2, '|', 0, 4, 'X', 2, 0, 'X', 4, 0,
        '>', 0, 8, '|', 0, 9);
    p.wish(10);
    p.wish(11);
    due("14: by what was first", p.verdict(), '?');
    due("15: nothing", p.states(), 0);
    refused("16: nothing", UNSUPPORTED, () -> p.given(9, 9));
    refused("17: nothing", UNSUPPORTED, () -> p.next(9, 9));
    refused("18: nothing", UNSUPPORTED, p::core);
    refused("19: nothing", UNSUPPORTED, () -> p.coreAt(0));
    refused("21: nothing", UNSUPPORTED, p::begin);
    refused("25: nothing", UNSUPPORTED, () -> p.replay(9, 9));
    due("38: nothing", p.isTrue(), true);
    // o is what the input was one place before: two states.
    Parityforge q = with(1, 1, 'X', 1, 0, '>', 0, 2, 'G', 3, 0, '>', 2, 0, 'G', 5, 0);
    q.wish(4);
    q.wish(6);
    due("14: the input before", q.verdict(), 'c');
    due("15: the input before", q.states(), 2);
    int[][] rows = {{0, 0, 0, 1}, {1, 0, 1, 1}};
    for (int s = 0; s < 2; s++) {
      for (int i = 0; i < 2; i++) {
        due("16: row " + s + " " + i, q.given(s, i), rows[s][2 * i]);
        due("17: row " + s + " " + i, q.next(s, i), rows[s][2 * i + 1]);
      }
    }
    due("21: two states", q.begin(), 2);
    due("22: ahead", q.step(1), 0);
    due("23: after", q.state(), 1);
    due("22: then", q.step(0), 1);
    due("23: back", q.state(), 0);
    due("24: two", q.steps(), 2);
    due("25: i, no i", q.replay(1, 0), 2);
    due("8: from 0 on", q.setLoop(1), 0);
    due("25: i, i", q.replay(1, 1), 3);
    due("8: from the place where the state was first", q.setLoop(0), 1);
    due("10: o at the place 0", q.holds(1, 0), false);
    due("10: o at the place 1", q.holds(1, 1), true);
    due("24: as before", q.steps(), 2);
    due("38: two states", q.isTrue(), true);
    // With two inputs no controller of two states is tried.
    Parityforge r = with(2, 1, 'X', 1, 0, '>', 0, 2, 'G', 3, 0, '>', 2, 0, 'G', 5, 0);
    r.wish(4);
    r.wish(6);
    due("14: two inputs", r.verdict(), '?');
  }

  static void cores() {
    Parityforge p = with(1, 1, 'G', 1, 0, '!', 1, 0, 'F', 3, 0, 'G', 0, 0, 'X', 3, 0);
    p.wish(1);
    p.wish(4);
    p.wish(2);
    p.wish(6);
    due("14: o always and not", p.verdict(), 'e');
    due("18: two of four", p.core(), 2);
    due("19: the lowest first one", p.coreAt(0), 1);
    due("19: then", p.coreAt(1), 2);
    p.drop();
    p.wish(2);
    p.wish(1);
    p.wish(6);
    p.wish(4);
    due("18: two of four", p.core(), 2);
    due("19: first", p.coreAt(0), 0);
    due("19: the lowest second one", p.coreAt(1), 2);
    p.drop();
    p.wish(3);
    p.wish(1);
    p.wish(5);
    due("18: one is enough", p.core(), 1);
    due("19: G i", p.coreAt(0), 2);
    p.assume(5);
    due("18: the assumption stays", p.core(), 2);
    due("19: !o", p.coreAt(0), 0);
    due("19: o", p.coreAt(1), 1);
  }

  static void runs() {
    Parityforge p = with(1, 2, 'G', 0, 0, 't', 0, 0);
    refused("22: none going", STATE, () -> p.step(9));
    refused("23: none going", STATE, p::state);
    refused("24: none going", STATE, p::steps);
    due("21: no wishes", p.begin(), 1);
    refused("22: letter 2", ILLEGAL, () -> p.step(2));
    refused("22: letter -1", ILLEGAL, () -> p.step(-1));
    due("24: changes nothing", p.steps(), 0);
    due("22: gives", p.step(1), 0);
    due("24: one", p.steps(), 1);
    due("21: anew", p.begin(), 1);
    due("24: anew", p.steps(), 0);
    refused("25: first", ILLEGAL, () -> p.replay(2, 0));
    refused("25: second", ILLEGAL, () -> p.replay(0, -1));
    due("25: 0, 1", p.replay(0, 1), 2);
    due("25: the input is at the place 1", p.holds(0, 1), true);
    due("25: alike, and yet two", p.replay(1, 1), 2);
    due("9: these", p.clearWord(), 2);
    due("24: leaves it", p.steps(), 0);
    p.verdictWith(0);
    p.formula('t', 0, 0);
    due("24: asking leaves it", p.steps(), 0);
    refused("11: none", BOUNDS, () -> p.assume(77));
    due("24: a refusal leaves it", p.steps(), 0);
    p.assume(3);
    refused("24: over by an assumption", STATE, p::steps);
    p.begin();
    p.wish(3);
    refused("23: over by a wish", STATE, p::state);
    p.begin();
    p.drop();
    refused("22: over by drop", STATE, () -> p.step(0));
    p.begin();
    p.drop();
    refused("24: over by drop in any case", STATE, p::steps);
    p.wish(2);
    due("21: an environment", p.begin(), 1);
    refused("22: output letter 4", ILLEGAL, () -> p.step(4));
    due("22: output letter 3", p.step(3), 0);
    refused("25: output letter 4", ILLEGAL, () -> p.replay(3, 4));
    due("25: output letters", p.replay(3, 1), 2);
    due("25: the outputs are in the word", p.holds(1, 0), true);
    due("25: not the input", p.holds(0, 0), false);
  }

  static void makingGames() {
    Parityforge p = new Parityforge(1, 1);
    refused("26: owner 2", ILLEGAL, () -> p.node(2, 0));
    refused("26: owner -1", ILLEGAL, () -> p.node(-1, 0));
    refused("26: priority 8", ILLEGAL, () -> p.node(0, 8));
    refused("26: priority -1", ILLEGAL, () -> p.node(1, -1));
    refused("27: none", BOUNDS, () -> p.edge(0, 0, true));
    refused("28: none", BOUNDS, () -> p.setPriority(0, 9));
    for (int i = 0; i < 12; i++) due("26: number", p.node(i % 2, i % 8), i);
    refused("26: 12 nodes", STATE, () -> p.node(0, 0));
    refused("26: out of range ahead of 12", ILLEGAL, () -> p.node(0, 8));
    due("27: new", p.edge(0, 11, true), false);
    due("27: again", p.edge(0, 11, true), true);
    due("27: away", p.edge(0, 11, false), true);
    due("27: not there", p.edge(0, 11, false), false);
    due("27: itself", p.edge(3, 3, true), false);
    refused("27: from 12", BOUNDS, () -> p.edge(12, 0, true));
    refused("27: to 12", BOUNDS, () -> p.edge(0, 12, false));
    refused("27: to -1", BOUNDS, () -> p.edge(0, -1, true));
    due("28: before", p.setPriority(5, 7), 5);
    due("28: before", p.setPriority(5, 0), 7);
    refused("28: 8", ILLEGAL, () -> p.setPriority(5, 8));
    refused("28: no node ahead of 8", BOUNDS, () -> p.setPriority(12, 8));
    refused("30: no node ahead of no edge", BOUNDS, () -> p.winner(12));
    refused("31: no node ahead of no edge", BOUNDS, () -> p.winnerAnew(-1));
    refused("32: no player ahead of no edge", ILLEGAL, () -> p.won(2));
    refused("33: no node ahead of no edge", BOUNDS, () -> p.move(12));
    refused("34: no node ahead of no edge", BOUNDS, () -> p.lasting(12));
    refused("30: no edge", STATE, () -> p.winner(0));
    refused("31: no edge", STATE, () -> p.winnerAnew(0));
    refused("32: no edge", STATE, () -> p.won(0));
    refused("33: no edge", STATE, () -> p.move(0));
    refused("34: no edge", STATE, () -> p.lasting(0));
    refused("35: no edge", STATE, p::sum);
    refused("36: no edge", STATE, p::wonShare);
    due("38: no edge", p.isTrue(), true);
    due("29: all", p.clearGame(), 12);
    due("29: none", p.clearGame(), 0);
    due("26: anew", p.node(0, 0), 0);
    refused("29: the edges are gone too", STATE, p::sum);
  }

  static void solvingGames() {
    Parityforge p = new Parityforge(1, 1);
    due("32: no nodes", p.won(0) + p.won(1), 0);
    due("35: no nodes", p.sum(), 0L);
    refused("36: no nodes", ARITHMETIC, p::wonShare);
    refused("32: player -1", ILLEGAL, () -> p.won(-1));
    // 0 may go to its own even loop or to 1; 1 may go to 0 or to the odd loop 2; 3 must go to 2.
    p.node(0, 4);
    p.node(1, 1);
    p.node(0, 5);
    p.node(1, 7);
    p.edge(0, 0, true);
    p.edge(0, 1, true);
    p.edge(1, 0, true);
    p.edge(1, 2, true);
    p.edge(2, 2, true);
    p.edge(3, 2, true);
    int[] winners = {0, 1, 1, 1};
    for (int i = 0; i < 4; i++) {
      due("30: node " + i, p.winner(i), winners[i]);
      due("31: node " + i, p.winnerAnew(i), winners[i]);
    }
    due("32: player 0", p.won(0), 1);
    due("32: player 1", p.won(1), 3);
    due("33: the loop", p.move(0), 0);
    due("33: to the odd loop", p.move(1), 2);
    refused("33: not won by its owner", MISSING, () -> p.move(2));
    due("33: one edge", p.move(3), 2);
    due("34: its loop", p.lasting(0), 4);
    due("34: the odd loop", p.lasting(1), 5);
    due("34: the greatest one comes just once", p.lasting(3), 5);
    due("35: all", p.sum(), 40L + 11L * 100 + 51L * 10000 + 71L * 1000000);
    due("36: one of four", p.wonShare(), 0.25f);
    due("38: both ways", p.isTrue(), true);
    due("28: before", p.setPriority(2, 6), 5);
    due("30: after", p.winner(2), 0);
    due("30: by an odd loop no more", p.won(0), 4);
    refused("33: no node", BOUNDS, () -> p.move(4));
    // Moves are found with what lower nodes have lost: 0 and 1 may not both wait for each other.
    Parityforge q = new Parityforge(1, 1);
    q.node(0, 1);
    q.node(0, 1);
    q.node(1, 2);
    q.edge(0, 1, true);
    q.edge(0, 2, true);
    q.edge(1, 0, true);
    q.edge(1, 2, true);
    q.edge(2, 0, true);
    q.edge(2, 1, true);
    due("33: the lowest one that still wins", q.move(0), 1);
    due("33: the other edge of 0 is lost", q.move(1), 2);
    due("34: by moves", q.lasting(0), 2);
    Parityforge r = new Parityforge(1, 1);
    for (int i = 0; i < 12; i++) {
      r.node(i % 2, 7);
      r.edge(i, i, true);
    }
    long sum = 0;
    for (int i = 0; i < 12; i++) sum += 71L * (long) Math.pow(100, i % 8);
    due("35: from the node 8 on as from 0 on", r.sum(), sum);
    due("36: none of twelve", r.wonShare(), 0f);
    r.setPriority(0, 0);
    due("36: one of twelve", r.wonShare(), 1f / 12f);
  }

  static void meanSizes() {
    Parityforge p = new Parityforge(1, 1);
    refused("37: none", ARITHMETIC, p::meanSize);
    p.formula('t', 0, 0);
    due("37: one", p.meanSize(), 1.0);
    p.formula('&', 0, 0);
    p.formula('&', 1, 0);
    due("37: three", p.meanSize(), 9.0 / 3.0);
    p.formula('X', 2, 0);
    p.formula('t', 0, 0);
    p.formula('t', 0, 0);
    due("37: six", p.meanSize(), 17.0 / 6.0);
    due("38: without wishes and nodes", p.isTrue(), true);
  }

  /** The examples of the document. */
  static void examples() {
    Parityforge a = with(1, 1, '>', 0, 1, 'G', 2, 0);
    due("example 1", a.wish(3), 1);
    due("example 1", a.verdict(), 'c');
    due("example 1", a.given(0, 1), 1);
    due("example 1", a.isTrue(), true);
    Parityforge b = new Parityforge(1, 1);
    b.formula('i', 0, 0);
    b.formula('X', 0, 0);
    b.formula('o', 0, 0);
    b.formula('>', 1, 2);
    due("example 2", b.formula('>', 2, 1), 4);
    refused("example 2", UNSUPPORTED, () -> b.formula('&', 3, 4));
    refused("example 2", BOUNDS, () -> b.formula('G', 5, 0));
    refused("example 2", BOUNDS, () -> b.wish(6));
    due("example 2", b.verdict(), 'c');
    due("example 2", b.next(0, 0), 0);
    Parityforge c = new Parityforge(1, 1);
    c.node(0, 1);
    c.node(1, 2);
    c.edge(0, 1, true);
    c.edge(1, 0, true);
    due("example 3", c.winner(0), 0);
    due("example 3", c.move(0), 1);
    due("example 3", c.lasting(1), 2);
    Parityforge d = new Parityforge(2, 2);
    refused("example 4", ILLEGAL, () -> d.formula('q', 0, 0));
    refused("example 4", BOUNDS, () -> d.setLoop(0));
    refused("example 4", UNSUPPORTED, d::core);
    refused("example 4", ILLEGAL, () -> d.won(3));
    refused("example 4", ARITHMETIC, d::wonShare);
  }

  public static void main(String[] args) {
    sizesOfAlphabets();
    makingFormulas();
    whatAllWordsKeep();
    words();
    addingWishes();
    verdicts();
    largerMachines();
    cores();
    runs();
    makingGames();
    solvingGames();
    meanSizes();
    examples();
    System.out.println(asked + " calls, " + wrong + " not as due");
    if (wrong != 0) System.exit(1);
  }
}
