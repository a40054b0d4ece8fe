/**
 * For each promise the boundaries that its sentences name: the least and the greatest number, the next ones
 * beyond them, the empty and the full, each refused call, and what calls end or leave.
 */
public final class ParityforgeBounds extends ParityforgePromises {
  static final int LEAST = Integer.MIN_VALUE;
  static final int GREATEST = Integer.MAX_VALUE;
  static final String KINDS = "tfio!&|>XFGUWR";

  /** Numbers that are none of 0 to the bound, which is not one of them. */
  static int[] outside(int bound) {
    return new int[] {-1, bound, LEAST, GREATEST, -2, bound + 1, LEAST + 1, GREATEST - 1, bound + 64, bound - 64};
  }

  /** A maker with the inputs and the outputs as the first formulas. */
  static Parityforge literals(int inputs, int outputs) {
    Parityforge p = new Parityforge(inputs, outputs);
    for (int i = 0; i < inputs; i++) p.formula('i', i, 0);
    for (int i = 0; i < outputs; i++) p.formula('o', i, 0);
    return p;
  }

  /** Fills a maker up with formulas and answers how many it had. */
  static int fillUp(Parityforge p, int from) {
    for (int i = from; i < 60; i++) due("2: the number of a formula", p.formula('t', LEAST, GREATEST), i);
    return 60;
  }

  // ---- promise 1

  static void sizesOfAlphabetsAtAll() {
    int[] numbers = {LEAST, LEAST + 1, -1, 0, 1, 2, 3, 4, GREATEST - 1, GREATEST};
    for (int inputs : numbers) {
      for (int outputs : numbers) {
        int in = inputs < 1 ? 1 : inputs > 2 ? 2 : inputs;
        int out = outputs < 1 ? 1 : outputs > 2 ? 2 : outputs;
        Parityforge p = new Parityforge(inputs, outputs);
        String of = " of (" + inputs + ", " + outputs + ")";
        nothingYet(p, of);
        for (int i = 0; i < in; i++) due("1: input " + i + of, p.formula('i', i, 0), i);
        for (int i : outside(in)) refused("1: input " + i + of, ILLEGAL, () -> p.formula('i', i, 0));
        for (int i = 0; i < out; i++) due("1: output " + i + of, p.formula('o', i, 0), in + i);
        for (int i : outside(out)) refused("1: output " + i + of, ILLEGAL, () -> p.formula('o', i, 0));
        for (int i : outside(1 << in + out)) refused("1: letter " + i + of, ILLEGAL, () -> p.letter(i));
        for (int i = 0; i < Math.min(1 << in + out, 12); i++) due("1: letter " + i + of, p.letter(i), i + 1);
        due("1: a controller's last letter" + of, p.given(0, (1 << in) - 1), 0);
        for (int i : outside(1 << in)) refused("1: a controller's letter " + i + of, BOUNDS, () -> p.next(0, i));
        p.wish(p.formula('f', 0, 0));
        due("1: an environment's last letter" + of, p.next(0, (1 << out) - 1), 0);
        for (int i : outside(1 << out)) refused("1: an environment's letter " + i + of, BOUNDS, () -> p.next(0, i));
      }
    }
  }

  static void nothingYet(Parityforge p, String of) {
    refused("1: no formula" + of, BOUNDS, () -> p.size(0));
    refused("1: no mean" + of, ARITHMETIC, p::meanSize);
    refused("1: no letter" + of, BOUNDS, () -> p.setLoop(0));
    due("1: no letters" + of, p.clearWord(), 0);
    due("1: no wishes" + of, p.drop(), 0);
    refused("1: no run" + of, STATE, p::state);
    refused("1: no node" + of, BOUNDS, () -> p.winner(0));
    refused("1: no share" + of, ARITHMETIC, p::wonShare);
    due("1: no nodes" + of, p.clearGame(), 0);
    due("1: nothing wrong" + of, p.isTrue(), true);
    due("1: the verdict" + of, p.verdict(), 'c');
  }

  // ---- promises 2 and 3

  static void kindsAtAll() {
    Parityforge p = new Parityforge(2, 2);
    for (int c = 0; c <= Character.MAX_VALUE; c++) {
      char kind = (char) c;
      if (KINDS.indexOf(kind) < 0) refused("2: kind " + c, ILLEGAL, () -> p.formula(kind, 0, 0));
    }
    refused("3: none was made", BOUNDS, () -> p.size(0));
    int[] any = {LEAST, -1, 0, 1, 60, GREATEST};
    int made = 0;
    for (int a : any) {
      for (int b : any) {
        if (made < 36) due("2: t of (" + a + ", " + b + ")", p.formula(made % 2 == 0 ? 't' : 'f', a, b), made++);
      }
    }
    for (int b : any) due("2: i, whatever b is", p.formula('i', 1, b), made++);
    for (int b : any) due("2: o, whatever b is", p.formula('o', 1, b), made++);
    for (char kind : "!XFG".toCharArray()) {
      due("2: " + kind + ", whatever b is", p.formula(kind, made - 1, LEAST), made++);
      due("3: its size", p.size(made - 1), p.size(made - 2) + 1);
    }
    for (int f = 0; f < 48; f++) due("3: the size of a leaf", p.size(f), 1);
    for (int f : outside(made)) refused("3: size of " + f, BOUNDS, () -> p.size(f));
  }

  static void partsAtAll() {
    for (int count = 0; count <= 59; count += count < 3 ? 1 : 14) {
      Parityforge p = new Parityforge(1, 1);
      for (int i = 0; i < count; i++) p.formula('t', 0, 0);
      int has = count;
      for (int part : outside(count)) {
        for (char kind : "!XFG".toCharArray()) refused("2: " + kind + " of " + part, BOUNDS, () -> p.formula(kind, part, 0));
        for (char kind : "&|>UWR".toCharArray()) {
          refused("2: " + kind + " of first " + part, BOUNDS, () -> p.formula(kind, part, has - 1));
          refused("2: " + kind + " of second " + part, BOUNDS, () -> p.formula(kind, has - 1, part));
          refused("2: " + kind + " of none", BOUNDS, () -> p.formula(kind, part, part));
        }
      }
      if (count > 0) due("2: of the last one", p.formula('&', count - 1, count - 1), count);
    }
  }

  static void sizesAtAll() {
    for (char kind : "!XFG".toCharArray()) {
      Parityforge p = new Parityforge(1, 1);
      p.formula('i', 0, 0);
      for (int size = 2; size <= 8; size++) {
        due("2: " + kind + " of size " + size, p.formula(kind, size - 2, 0), size - 1);
        due("3: " + kind + " of size " + size, p.size(size - 1), size);
      }
      for (char other : "!XFG".toCharArray()) refused("2: size 9", UNSUPPORTED, () -> p.formula(other, 7, 0));
      // Two parts: the sizes make 8 at most with the formula's own 1.
      int made = 8;
      for (char two : "&|>UWR".toCharArray()) {
        for (int a = 0; a < 8; a++) {
          for (int b = 0; b < 8; b++) {
            int one = a;
            int other = b;
            if (a + 1 + b + 1 + 1 > 8) {
              refused("2: " + two + " of sizes " + (a + 1) + " and " + (b + 1), UNSUPPORTED, () -> p.formula(two, one, other));
            } else if (a + b == 5 && made < 60) {
              due("2: " + two + " of size 8", p.formula(two, a, b), made);
              due("3: " + two + " of size 8", p.size(made++), 8);
            }
          }
        }
      }
    }
  }

  static void sixtyFormulas() {
    Parityforge p = new Parityforge(1, 1);
    p.formula('i', 0, 0);
    for (int i = 1; i < 8; i++) p.formula('X', i - 1, 0);
    int full = fillUp(p, 8);
    due("3: the last one", p.size(full - 1), 1);
    for (char kind : "tf".toCharArray()) refused("2: a formula more", STATE, () -> p.formula(kind, 0, 0));
    for (char kind : "io!XFG".toCharArray()) refused("2: a formula more", STATE, () -> p.formula(kind, 0, 0));
    for (char kind : "&|>UWR".toCharArray()) {
      refused("2: a formula more", STATE, () -> p.formula(kind, 0, 0));
      refused("2: of size 8 too", STATE, () -> p.formula(kind, 0, 5));
      refused("2: too large ahead of too many", UNSUPPORTED, () -> p.formula(kind, 0, 6));
      refused("2: no part ahead of too large", BOUNDS, () -> p.formula(kind, 7, 60));
      refused("2: no part ahead of too large", BOUNDS, () -> p.formula(kind, -1, 7));
    }
    refused("2: no kind ahead of all", ILLEGAL, () -> p.formula('x', 60, 60));
    refused("2: no input ahead of all", ILLEGAL, () -> p.formula('i', 1, 60));
    refused("2: no output ahead of all", ILLEGAL, () -> p.formula('o', -1, 60));
    refused("2: too large ahead of too many", UNSUPPORTED, () -> p.formula('G', 7, 0));
    refused("2: no part ahead of too many", BOUNDS, () -> p.formula('G', 60, 0));
    refused("3: 60", BOUNDS, () -> p.size(60));
    due("37: 60 formulas", p.meanSize(), (36.0 + 52.0) / 60.0);
    due("4: the last of 60", p.canBe(59), true);
    due("5: the last of 60", p.isValid(59), true);
    due("6: the last of 60", p.follows(7, 59), true);
    due("11: the last of 60", p.assume(59), 1);
    due("12: the last of 60", p.wish(59), 1);
    due("20: the last of 60", p.verdictWith(59), 'c');
    p.letter(0);
    due("10: the last of 60", p.holds(59, 99), true);
  }

  // ---- promises 4 to 6

  static void noSuchFormula() {
    for (int count : new int[] {0, 1, 2, 59, 60}) {
      Parityforge p = new Parityforge(1, 1);
      for (int i = 0; i < count; i++) p.formula('t', 0, 0);
      p.letter(0);
      for (int f : outside(count)) {
        refused("3: size(" + f + ")", BOUNDS, () -> p.size(f));
        refused("4: canBe(" + f + ")", BOUNDS, () -> p.canBe(f));
        refused("5: isValid(" + f + ")", BOUNDS, () -> p.isValid(f));
        refused("6: follows(" + f + ", 0)", BOUNDS, () -> p.follows(f, 0));
        refused("6: follows(0, " + f + ")", BOUNDS, () -> p.follows(0, f));
        refused("6: follows(" + f + ", " + f + ")", BOUNDS, () -> p.follows(f, f));
        refused("10: holds(" + f + ", 0)", BOUNDS, () -> p.holds(f, 0));
        refused("11: assume(" + f + ")", BOUNDS, () -> p.assume(f));
        refused("12: wish(" + f + ")", BOUNDS, () -> p.wish(f));
        refused("20: verdictWith(" + f + ")", BOUNDS, () -> p.verdictWith(f));
      }
      if (count > 0) due("6: the last one", p.follows(count - 1, count - 1), true);
      due("13: nothing was added", p.drop(), 0);
    }
  }

  /** What each kind is, as one formula following from another one, or not. */
  static void kindsByWhatFollows() {
    Parityforge p = literals(1, 1);
    int t = p.formula('t', 0, 0);
    int f = p.formula('f', 0, 0);
    int notA = p.formula('!', 0, 0);
    int[] both = {p.formula('&', 0, 1), p.formula('|', 0, 1), p.formula('>', 0, 1)};
    int nextA = p.formula('X', 0, 0);
    int someA = p.formula('F', 0, 0);
    int allA = p.formula('G', 0, 0);
    int until = p.formula('U', 0, 1);
    int weak = p.formula('W', 0, 1);
    int release = p.formula('R', 0, 1);
    int someB = p.formula('F', 1, 0);
    int allB = p.formula('G', 1, 0);
    int[][] follow = {
      {f, t}, {f, 0}, {0, t}, {both[0], 0}, {both[0], 1}, {0, both[1]}, {1, both[1]}, {1, both[2]}, {notA, both[2]},
      {0, someA}, {nextA, someA}, {allA, someA}, {allA, 0}, {allA, nextA}, {until, someB}, {until, both[1]},
      {until, weak}, {allA, weak}, {1, until}, {1, weak}, {release, 1}, {allB, release}, {both[0], release},
      {release, both[1]}, {f, until}, {release, weak}, {allB, until}
    };
    int[][] not = {
      {t, f}, {t, 0}, {0, f}, {0, both[0]}, {1, both[0]}, {both[1], 0}, {both[1], 1}, {both[2], 1}, {both[2], notA},
      {someA, 0}, {someA, nextA}, {someA, allA}, {0, allA}, {nextA, allA}, {nextA, 0}, {0, nextA}, {someB, until},
      {both[1], until}, {weak, until}, {weak, allA}, {until, 1}, {weak, 1}, {1, release}, {release, allB},
      {release, both[0]}, {both[1], release}, {t, until}, {t, weak}, {weak, someB}, {weak, release}, {allA, until}
    };
    for (int[] pair : follow) due("6: " + pair[1] + " follows from " + pair[0], p.follows(pair[0], pair[1]), true);
    for (int[] pair : not) due("6: " + pair[1] + " does not follow from " + pair[0], p.follows(pair[0], pair[1]), false);
    for (int i = 0; i <= allB; i++) {
      due("4: formula " + i, p.canBe(i), i != f);
      due("5: formula " + i, p.isValid(i), i == t);
      due("6: from itself " + i, p.follows(i, i), true);
      due("6: from f " + i, p.follows(f, i), true);
      due("6: t from " + i, p.follows(i, t), true);
    }
  }

  // ---- promises 7 to 10

  static void twelveLetters() {
    Parityforge p = literals(2, 2);
    for (int length = 0; length < 12; length++) {
      int has = length;
      for (int place : outside(length)) refused("8: place " + place + " of " + has, BOUNDS, () -> p.setLoop(place));
      for (int letter : outside(16)) refused("7: letter " + letter, ILLEGAL, () -> p.letter(letter));
      due("7: the letter " + (15 - length), p.letter(15 - length), length + 1);
      due("8: the last place", p.setLoop(length), Math.max(length - 1, 0));
    }
    for (int letter : outside(16)) refused("7: no letter ahead of 12", ILLEGAL, () -> p.letter(letter));
    for (int letter = 0; letter < 16; letter++) {
      int more = letter;
      refused("7: a letter more", STATE, () -> p.letter(more));
    }
    for (int place : outside(12)) refused("8: place " + place + " of 12", BOUNDS, () -> p.setLoop(place));
    due("8: as before", p.setLoop(0), 11);
    for (int place = 0; place <= 99; place++) {
      for (int bit = 0; bit < 4; bit++) {
        due("10: round from 0 on, place " + place, p.holds(bit, place), (15 - place % 12 >> bit & 1) == 1);
      }
    }
    p.setLoop(5);
    for (int place = 0; place <= 99; place++) {
      int at = place < 12 ? place : 5 + (place - 5) % 7;
      for (int bit = 0; bit < 4; bit++) {
        due("10: round from 5 on, place " + place, p.holds(bit, place), (15 - at >> bit & 1) == 1);
      }
    }
    p.setLoop(11);
    for (int place = 11; place <= 99; place++) due("10: the last one for ever", p.holds(2, place), true);
    due("9: all 12", p.clearWord(), 12);
    due("9: none any more", p.clearWord(), 0);
    refused("8: none any more", BOUNDS, () -> p.setLoop(0));
    refused("10: none any more", STATE, () -> p.holds(0, 0));
    due("7: the first one again", p.letter(0), 1);
    due("8: from 0 on again", p.setLoop(0), 0);
  }

  static void placesAtAll() {
    Parityforge p = literals(1, 1);
    for (int place : outside(100)) {
      if (place < 0 || place > 99) {
        refused("10: no formula ahead of place " + place, BOUNDS, () -> p.holds(2, place));
        refused("10: place " + place + " ahead of no letters", ILLEGAL, () -> p.holds(1, place));
      }
    }
    for (int place = 0; place <= 99; place++) {
      int at = place;
      refused("10: no formula ahead of no letters", BOUNDS, () -> p.holds(-1, at));
      refused("10: no letters", STATE, () -> p.holds(1, at));
    }
    p.letter(2);
    for (int place : new int[] {-1, 100, LEAST, GREATEST}) {
      refused("10: no formula ahead of place " + place, BOUNDS, () -> p.holds(2, place));
      refused("10: place " + place, ILLEGAL, () -> p.holds(1, place));
    }
    due("10: the place 0", p.holds(1, 0), true);
    due("10: the place 99", p.holds(1, 99), true);
    due("10: the place 99", p.holds(0, 99), false);
    // The word's end: what comes next to the last letter is the letter of the place from which it goes on.
    int next = p.formula('X', 1, 0);
    int far = next;
    for (int i = 0; i < 6; i++) far = p.formula('X', far, 0);
    p.clearWord();
    for (int letter : new int[] {2, 0, 2, 0}) p.letter(letter);
    boolean[][] dueNext = {{false, true, false, true}, {false, true, false, false}, {false, true, false, true}, {false, true, false, false}};
    for (int loop = 0; loop < 4; loop++) {
      p.setLoop(loop);
      for (int place = 0; place < 4; place++) due("10: X at " + place + " from " + loop, p.holds(next, place), dueNext[loop][place]);
      for (int place = 0; place < 80; place++) {
        due("10: seven places on", p.holds(far, place), p.holds(1, place + 7));
        due("10: one place on", p.holds(next, place), p.holds(1, place + 1));
      }
    }
  }

  /** What holds behind the loop's beginning and ahead of it. */
  static void onceAndForEver() {
    Parityforge p = literals(1, 1);
    int some = p.formula('F', 1, 0);
    int all = p.formula('G', 1, 0);
    int until = p.formula('U', 0, 1);
    int weak = p.formula('W', 0, 1);
    int release = p.formula('R', 0, 1);
    int[] word = {1, 1, 2, 1, 1, 0, 2, 3, 2};
    for (int letter : word) p.letter(letter);
    String[] dues = {"TTTTTTTTT", "FFFFFFTTT", "TTTFFFTTT", "TTTFFFTTT", "FFFFFFTTT"};
    p.setLoop(6);
    for (int place = 0; place < 9; place++) {
      due("10: F at " + place, p.holds(some, place), dues[0].charAt(place) == 'T');
      due("10: G at " + place, p.holds(all, place), dues[1].charAt(place) == 'T');
      due("10: U at " + place, p.holds(until, place), dues[2].charAt(place) == 'T');
      due("10: W at " + place, p.holds(weak, place), dues[3].charAt(place) == 'T');
      due("10: R at " + place, p.holds(release, place), dues[4].charAt(place) == 'T');
    }
    p.clearWord();
    for (int letter : new int[] {2, 0, 1, 1}) p.letter(letter);
    p.setLoop(2);
    String[] later = {"TFFF", "FFFF", "TFFF", "TFTT", "FFFF"};
    for (int place = 0; place < 4; place++) {
      due("10: no F behind it", p.holds(some, place), later[0].charAt(place) == 'T');
      due("10: no G", p.holds(all, place), later[1].charAt(place) == 'T');
      due("10: U must come", p.holds(until, place), later[2].charAt(place) == 'T');
      due("10: W need not", p.holds(weak, place), later[3].charAt(place) == 'T');
      due("10: R not freed", p.holds(release, place), later[4].charAt(place) == 'T');
    }
  }

  // ---- promises 11 to 13, 20

  static void twoAssumptionsAndFourWishes() {
    for (int assumptions = 0; assumptions <= 2; assumptions++) {
      for (int wishes = 0; wishes <= 4; wishes++) {
        Parityforge p = literals(1, 1);
        int t = p.formula('t', 0, 0);
        int f = p.formula('f', 0, 0);
        for (int i = 1; i <= assumptions; i++) due("11: assumption", p.assume(t), i);
        for (int i = 1; i <= wishes; i++) due("12: wish", p.wish(i == 1 ? 1 : t), i);
        if (assumptions == 2) refused("11: a third one", STATE, () -> p.assume(f));
        if (wishes == 4) refused("12: a fifth one", STATE, () -> p.wish(f));
        for (int none : outside(4)) {
          refused("11: no formula ahead of too many", BOUNDS, () -> p.assume(none));
          refused("12: no formula ahead of too many", BOUNDS, () -> p.wish(none));
        }
        due("14: still a controller", p.verdict(), 'c');
        due("16: of o", p.given(0, 0), wishes > 0 ? 1 : 0);
        due("20: one assumption more", p.verdictWith(f), 'c');
        due("20: is not made", p.verdict(), 'c');
        due("13: all of them", p.drop(), assumptions + wishes);
        due("13: none any more", p.drop(), 0);
        due("14: no wishes", p.verdict(), 'c');
        due("16: the least letter", p.given(0, 0), 0);
        due("11: the first one again", p.assume(f), 1);
        due("12: the first one again", p.wish(f), 1);
      }
    }
  }

  /** Each assumption and each wish counts, whichever number it has; a third assumption does as well. */
  static void eachOneCounts() {
    for (int at = 0; at < 4; at++) {
      Parityforge p = literals(1, 1);
      int t = p.formula('t', 0, 0);
      int f = p.formula('f', 0, 0);
      for (int i = 0; i < 4; i++) p.wish(i == at ? f : t);
      due("14: a wish that is never kept", p.verdict(), 'e');
      due("18: it alone", p.core(), 1);
      due("19: it alone", p.coreAt(0), at);
      p.assume(t);
      due("14: an assumption that is always kept", p.verdict(), 'e');
      due("20: what is never", p.verdictWith(f), 'c');
      p.assume(at % 2 == 0 ? t : f);
      due("14: an assumption that is never kept", p.verdict(), at % 2 == 0 ? 'e' : 'c');
      due("20: over the 2", p.verdictWith(f), 'c');
      due("20: over the 2", p.verdictWith(t), at % 2 == 0 ? 'e' : 'c');
      due("14: as before", p.verdict(), at % 2 == 0 ? 'e' : 'c');
      due("13: as before", p.drop(), 6);
    }
    // Three assumptions that can be kept only one by one: G i, F !i and one more are never kept together.
    Parityforge p = literals(1, 1);
    int always = p.formula('G', 0, 0);
    int not = p.formula('!', 0, 0);
    int once = p.formula('F', not, 0);
    int f = p.formula('f', 0, 0);
    p.wish(f);
    p.assume(always);
    due("14: G i", p.verdict(), 'e');
    due("16: i", p.given(0, 0), 1);
    due("20: G i and F !i", p.verdictWith(once), 'c');
    p.assume(always);
    due("20: G i twice and F !i", p.verdictWith(once), 'c');
    due("20: G i three times", p.verdictWith(always), 'e');
    due("13: two and one", p.drop(), 3);
  }

  // ---- promises 14 to 17

  static void statesAndLetters() {
    for (int inputs = 1; inputs <= 2; inputs++) {
      for (int outputs = 1; outputs <= 2; outputs++) {
        Parityforge p = literals(inputs, outputs);
        int f = p.formula('f', 0, 0);
        machine("c", p, 1, 1 << inputs, true);
        p.wish(f);
        machine("e", p, 1, 1 << outputs, false);
      }
    }
    Parityforge p = literals(1, 2);
    int next = p.formula('X', 1, 0);
    int same = p.formula('>', 0, next);
    int always = p.formula('G', same, 0);
    int back = p.formula('>', next, 0);
    int alwaysBack = p.formula('G', back, 0);
    p.wish(always);
    p.wish(alwaysBack);
    machine("c", p, 2, 2, true);
    p.drop();
    int nextIn = p.formula('X', 0, 0);
    int tell = p.formula('>', 1, nextIn);
    int told = p.formula('>', nextIn, 1);
    p.wish(p.formula('G', tell, 0));
    p.wish(p.formula('G', told, 0));
    machine("e", p, 2, 4, false);
  }

  /** Two states that need the greatest letters and the last rows. */
  static void greatestRows() {
    Parityforge p = literals(1, 2);
    int next = p.formula('X', 1, 0);
    p.wish(p.formula('G', p.formula('>', 0, next), 0));
    p.wish(p.formula('G', p.formula('>', next, 0), 0));
    p.wish(p.formula('G', p.formula('>', 1, 2), 0));
    p.wish(p.formula('G', p.formula('>', 2, 1), 0));
    rows("both outputs as the input before", p, 2, "00013031");
    machine("c", p, 2, 2, true);
    p.drop();
    // The letter 3 ahead of an input, and then too: the state 1 gives it by both letters, the state 0 by none.
    Parityforge q = literals(2, 2);
    int both = q.formula('&', 0, 1);
    int told = q.formula('&', 2, 3);
    int nextBoth = q.formula('X', both, 0);
    q.wish(q.formula('>', told, nextBoth));
    q.wish(q.formula('>', nextBoth, told));
    rows("an environment that is not told", q, 2, "01010100" + "30303030");
    machine("e", q, 2, 4, false);
  }

  static void rows(String of, Parityforge p, int states, String due) {
    StringBuilder rows = new StringBuilder();
    for (int state = 0; state < p.states(); state++) {
      for (int letter = 0; letter < due.length() / states / 2; letter++) {
        rows.append(p.given(state, letter)).append(p.next(state, letter));
      }
    }
    due("16, 17: " + of, rows.toString(), due);
  }

  static void machine(String kind, Parityforge p, int states, int letters, boolean controller) {
    due("14: the kind", "" + p.verdict(), kind);
    due("15: the states", p.states(), states);
    due("21: the states", p.begin(), states);
    for (int state = 0; state < states; state++) {
      int at = state;
      for (int letter = 0; letter < letters; letter++) {
        int to = p.next(state, letter);
        due("17: a state", to >= 0 && to < states, true);
        due("16: a letter", p.given(state, letter) >= 0, true);
      }
      for (int letter : outside(letters)) {
        refused("17: letter " + letter, BOUNDS, () -> p.next(at, letter));
        if (controller) refused("16: letter " + letter, BOUNDS, () -> p.given(at, letter));
        else due("16: of no meaning", p.given(at, letter), p.given(at, 0));
      }
    }
    for (int state : outside(states)) {
      refused("16: state " + state, BOUNDS, () -> p.given(state, 0));
      refused("17: state " + state, BOUNDS, () -> p.next(state, 0));
    }
    for (int letter : outside(letters)) {
      refused("22: letter " + letter, ILLEGAL, () -> p.step(letter));
      refused("25: first letter " + letter, ILLEGAL, () -> p.replay(letter, 0));
      refused("25: second letter " + letter, ILLEGAL, () -> p.replay(0, letter));
      refused("25: both letters " + letter, ILLEGAL, () -> p.replay(letter, letter));
    }
    due("24: no step was done", p.steps(), 0);
    due("22: the last letter", p.step(letters - 1), p.given(0, letters - 1));
    due("23: the state", p.state(), p.next(0, letters - 1));
    due("25: the last letter", p.replay(letters - 1, letters - 1) >= 2, true);
    due("24: as before", p.steps(), 1);
    if (controller) {
      refused("18: no environment", UNSUPPORTED, p::core);
      for (int index : outside(4)) refused("19: no environment", UNSUPPORTED, () -> p.coreAt(index));
      refused("19: no environment", UNSUPPORTED, () -> p.coreAt(0));
    } else {
      for (int index : outside(p.core())) refused("19: index " + index, BOUNDS, () -> p.coreAt(index));
      due("19: the last index", p.coreAt(p.core() - 1) >= p.core() - 1, true);
    }
  }

  /** A maker with wishes by which nothing is found: as the first input is, so is o always. */
  static Parityforge nothingFound() {
    Parityforge p = literals(1, 1);
    int always = p.formula('G', 1, 0);
    int not = p.formula('!', 1, 0);
    int never = p.formula('G', not, 0);
    int ahead = p.formula('X', always, 0);
    int aheadNever = p.formula('X', never, 0);
    int notIn = p.formula('!', 0, 0);
    p.wish(p.formula('|', notIn, ahead));
    p.wish(p.formula('|', 0, aheadNever));
    return p;
  }

  static void nothingIsFound() {
    Parityforge p = nothingFound();
    due("14: nothing", p.verdict(), '?');
    due("15: nothing", p.states(), 0);
    for (int number : new int[] {LEAST, -1, 0, 1, 2, GREATEST}) {
      refused("16: nothing ahead of no state", UNSUPPORTED, () -> p.given(number, number));
      refused("17: nothing ahead of no state", UNSUPPORTED, () -> p.next(number, number));
      refused("19: nothing ahead of no index", UNSUPPORTED, () -> p.coreAt(number));
      refused("25: nothing ahead of no letter", UNSUPPORTED, () -> p.replay(number, number));
      refused("22: no run ahead of no letter", STATE, () -> p.step(number));
    }
    refused("18: nothing", UNSUPPORTED, p::core);
    refused("21: nothing", UNSUPPORTED, p::begin);
    refused("23: no run", STATE, p::state);
    refused("24: no run", STATE, p::steps);
    due("38: nothing to check", p.isTrue(), true);
    due("20: G !i", p.verdictWith(5), 'c');
    due("14: as before", p.verdict(), '?');
  }

  // ---- promises 21 to 25: what ends a run and what leaves it

  static void endsOfRuns() {
    String[] ends = {"assume", "wish", "drop"};
    for (String end : ends) {
      Parityforge p = literals(1, 1);
      p.begin();
      p.step(1);
      if (end.equals("assume")) p.assume(0);
      if (end.equals("wish")) p.wish(1);
      if (end.equals("drop")) due("13: none", p.drop(), 0);
      refused("22: over by " + end, STATE, () -> p.step(0));
      refused("22: over by " + end + ", ahead of no letter", STATE, () -> p.step(-1));
      refused("23: over by " + end, STATE, p::state);
      refused("24: over by " + end, STATE, p::steps);
      due("21: another run", p.begin(), 1);
      due("24: without steps", p.steps(), 0);
      due("23: from the state 0 on", p.state(), 0);
    }
    Parityforge p = literals(1, 1);
    p.assume(0);
    p.assume(0);
    for (int i = 0; i < 4; i++) p.wish(1);
    p.begin();
    p.step(0);
    refused("11: a third one", STATE, () -> p.assume(0));
    refused("12: a fifth one", STATE, () -> p.wish(0));
    refused("11: none", BOUNDS, () -> p.assume(2));
    refused("12: none", BOUNDS, () -> p.wish(-1));
    due("24: left by what was refused", p.steps(), 1);
    int notIn = p.formula('!', 0, 0);
    p.verdict();
    p.verdictWith(notIn);
    p.canBe(notIn);
    p.isTrue();
    p.letter(3);
    p.setLoop(0);
    p.replay(0, 1);
    p.clearWord();
    p.node(0, 0);
    p.clearGame();
    due("24: left by all else", p.steps(), 1);
    due("22: goes on", p.step(1), 1);
    for (int i = 3; i <= 400; i++) {
      p.step(i % 2);
      due("24: the steps", p.steps(), i);
    }
    refused("22: letter 2", ILLEGAL, () -> p.step(2));
    due("24: a refused step is none", p.steps(), 400);
    due("21: a run anew", p.begin(), 1);
    due("24: a run anew", p.steps(), 0);
    due("13: six", p.drop(), 6);
    refused("24: over", STATE, p::steps);
  }

  static void replays() {
    // What the input was one place before.
    Parityforge p = literals(1, 1);
    int next = p.formula('X', 1, 0);
    int one = p.formula('>', 0, next);
    int other = p.formula('>', next, 0);
    p.wish(p.formula('G', one, 0));
    p.wish(p.formula('G', other, 0));
    for (int i = 0; i < 12; i++) p.letter(3);
    p.setLoop(11);
    replay(p, 0, 0, "00", 0);
    replay(p, 0, 1, "012", 1);
    replay(p, 1, 0, "12", 0);
    replay(p, 1, 1, "133", 1);
    // Turned by each input: o is the other one at the next place, else it stays.
    Parityforge q = literals(1, 1);
    int notIn = q.formula('!', 0, 0);
    int notOut = q.formula('!', 1, 0);
    int thenOut = q.formula('X', 1, 0);
    int thenNot = q.formula('X', notOut, 0);
    int[] now = {q.formula('&', 0, 1), q.formula('&', 0, notOut), q.formula('&', notIn, 1), q.formula('|', 0, 1)};
    char[] kinds = {'>', '>', '>', '|'};
    int[] then = {thenNot, thenOut, thenOut, thenNot};
    for (int i = 0; i < 4; i++) q.wish(q.formula('G', q.formula(kinds[i], now[i], then[i]), 0));
    due("14: turned", q.verdict(), 'c');
    due("15: turned", q.states(), 2);
    replay(q, 0, 0, "00", 0);
    replay(q, 0, 1, "0123", 0);
    replay(q, 1, 0, "1230", 0);
    replay(q, 1, 1, "13", 0);
    // An environment, given the outputs: it gives what was not told.
    Parityforge e = literals(1, 1);
    int nextIn = e.formula('X', 0, 0);
    e.wish(e.formula('G', e.formula('>', 1, nextIn), 0));
    e.wish(e.formula('G', e.formula('>', nextIn, 1), 0));
    due("14: telling ahead", e.verdict(), 'e');
    replay(e, 0, 0, "01", 0);
    replay(e, 1, 1, "22", 0);
    replay(e, 0, 1, "03", 0);
    replay(e, 1, 0, "203", 1);
  }

  static void replay(Parityforge p, int first, int second, String word, int loop) {
    String of = "25: replay(" + first + ", " + second + ") ";
    due(of, p.replay(first, second), word.length());
    due(of + "goes on from", p.setLoop(0), loop);
    due(of + "again", p.replay(first, second), word.length());
    for (int place = 0; place < 30; place++) {
      int at = place < word.length() ? place : loop + (place - loop) % (word.length() - loop);
      int letter = word.charAt(at) - '0';
      due(of + "the input at " + place, p.holds(0, place), (letter & 1) == 1);
      due(of + "the output at " + place, p.holds(1, place), letter > 1);
    }
    due(of + "has so many letters", p.clearWord(), word.length());
    due(of + "leaves the loop to clearWord", p.letter(0) + p.setLoop(0), 1);
  }

  public static void main(String[] args) {
    sizesOfAlphabetsAtAll();
    kindsAtAll();
    partsAtAll();
    sizesAtAll();
    sixtyFormulas();
    noSuchFormula();
    kindsByWhatFollows();
    twelveLetters();
    placesAtAll();
    onceAndForEver();
    twoAssumptionsAndFourWishes();
    eachOneCounts();
    statesAndLetters();
    greatestRows();
    nothingIsFound();
    endsOfRuns();
    replays();
    System.out.println(asked + " calls, " + wrong + " not as due");
    if (wrong != 0) System.exit(1);
  }
}
