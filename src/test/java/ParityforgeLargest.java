import java.util.Random;

/**
 * The largest cases: formulas of the size 8, 60 of them, 2 assumptions, one more for verdictWith, and 4 wishes,
 * chosen by hand or by climbing so that looking for words is as dear as could be found. Formulas are written with
 * their kind ahead of their parts, a and b being the inputs, c and d the outputs.
 */
public final class ParityforgeLargest extends ParityforgePromises {
  /** Found by climbing; the answers were given alike by two makers that look for words in different ways. */
  static final String[] DEAR = {
    // inputs, outputs, assumptions, wishes, verdict, rows, core, verdict with the third assumption
    "2 2 !!XXUbb,>XFX!aa,UaXXXXXa GUaXXXXc,GUbXXXXc,GUaXXXXa,RcUaXXXd e 1111111121212121 2 e",
    "2 2 !!XGWXbc,Uaa,Gb GUaXXXXd,GUaXXXXc,GUbXXXXa,RcUaXXXa e 1110111121202121 2 e",
    "1 1 GUcXXXXa,GWaXXXXa,GUcXXXXa GUaXXXXa,GUcXG!!a ? - - ?",
    "1 1 GUcXXXXa,GWcXXXXa,GUcXXXXa GUaXXXXc,GUXX!aXa ? - - ?",
    "1 2 U>aXaa,a GUdXXXXa,GUcXXXXd,GUcXXXXa,GUcXXXXc e 1010101101010101 0 -",
    "1 2 UXR!dGda,>!aUXdXc GUaXXXXa,GUcXXXXa,GUcXXXXd,GUcXXXXc e 1010101101010101 0 -",
    "2 2 GFRFcGa,GUcXXXXb,!GXRbG!a GUaXXXXc,GUaXXXXd,GUcXXXXa,RdWaXXXa ? - - ?",
    "2 2 XX|Gcb,GUcXXXXb,GUcXFXXa GUaXXXXb,GUaXXXXd,GUcXXXXa,GUcXXXXb e 20202020 2 ?",
    "2 1 GWcXXXXb,GUcXXXXa,GUcXXXXb GUcXXXXb,GUcXXXXa,GUcXXXXb,GWRacXXa ? - - c",
    "2 1 GWcXXXXa,GUcXXXXa,GUcXXXXb GUcXXXXb,GUcXXXXa,GUcXXXXb,GWRacXXa e 1010 0 c",
    "2 2 XXXXFXXb,XXFUcXb,XUFXGaGb GUbXXXXd,GUcXXXXb,GUbXXXXb,UbX&FGcb e 0101010120202020 2 ?",
    "2 2 XXXXFXXb,XXFRFXbb,GUcXXXXb GUbXXXXd,GUcXXXXb,GUbXXXXb,UbX&FGcb e 0101010120202020 2 ?",
    "2 2 - GFWdXXXa,RFGc&d!c,GUdXXXXc,GUdXXXXd ? - - -",
    "2 2 - GFWdXXXd,RFGc&d!c,GUdXXXXc,GUdXXXXd ? - - -",
    "2 1 WFbXXXXb,G|aXXXXc,UFcXXXXb RWXccXXb,GGXX!Fc,GX>RGbcc,&FGXFca e 3030 0 e",
    "2 1 WFbXXXXa,G|aXXXXc,UFcXXXXb RWXccXXb,GUcXG!b,GUcXXXXc,GXXXX!Fa e 1010 0 e",
    "2 2 - GFWaXFXd,GUdXXXXc,UGa>XdFb,RcWaXXXd ? - - -",
    "1 2 - G>cXXXXd,WFGa>Xaa,GUdXXXXc,WFaXXXXc e 0101010110101010 1 -",
    "2 2 - F|b!XXXd,UUaXbXXd,GUdXXXXc,RcUaXXXd ? - - -",
    "2 2 - F|b!XXXd,UUaXbXXd,GUdXXXXd,RcUaXXXd ? - - -",
    "1 2 - !RGaXXXc,RcUaXXXc,RdWaXXXc,URXXXdad ? - - -",
    "1 2 - !RGaXXXc,RcUaXXXd,RdWaXXXc,URXXXdad ? - - -",
    "2 2 - FFRXd&dd,RGc>d!Xd,RFdXXXXc,RFaXXXFd ? - - -",
    "2 2 - FFRXdWdd,RGc>d!Xd,RFaXXXXc,RFaXXXFd ? - - -",
    "1 2 UFdXGXXa,RXFXXcFa,GWcXXXXa GUcXXXXa,GUcXXXXa,GU>aGaXa,GUGXGda ? - - ?",
    "1 2 UFdXGXXa,RXFXXcFa,GWcXXXXa GUcXXXXa,GUcXXXXa,GU>aGaXa,GUGFda ? - - ?",
    "2 2 WfUGdGXb G|XXXXad,RUbXXbXb,WFWcXXac,UWFaXbXc ? - - -",
    "2 2 - FRcX!XXc,RaFWcXXa,WUFdXaXd,RFaXXXXd ? - - -",
    // What is left to do when the rows of a search grow must be done later on.
    "1 1 - XWGFGcFa,UWacXXXa,WFGa!XGc,RRcXFcXc e 0000 1 -",
    "2 1 XURbFXcb,FX&FcXXb RUcRaXcc,Ra>tXXXa,RXRbXFcb c 00000000 - -",
    "2 1 Ub&XXbGb,WG&btXXc,XW!cXXXc RaUc!XXa,UXcRUbab,WGcX&Xbc,UcXRcXXa e 2020 0 ?",
    "2 2 - W|cfXXXc,RGdRFXcd,UdRdX!Xd e 00000000 12 -",
    "2 1 FRF!aXXc,Wb!XXX!b,WWFcXGcc RbF!UXbb,RaXWaXXa c 00000000 - c",
    "2 2 WFGaXRbb,WUtRFcba RXaRFbFc,UFcWXXdd,RbRXXb!d e 10101010 12 -"
  };

  final Parityforge p;
  String rest;

  ParityforgeLargest(int inputs, int outputs) {
    p = new Parityforge(inputs, outputs);
  }

  int formula(String text) {
    rest = text;
    return read();
  }

  int read() {
    char c = rest.charAt(0);
    rest = rest.substring(1);
    if (c >= 'a' && c <= 'd') return p.formula(c < 'c' ? 'i' : 'o', (c - 'a') % 2, 0);
    if (c == 't' || c == 'f') return p.formula(c, 0, 0);
    int first = read();
    return p.formula(c, first, "!XFG".indexOf(c) >= 0 ? 0 : read());
  }

  static void dearOnes() {
    for (String line : DEAR) {
      String[] part = line.split(" ");
      int inputs = Integer.parseInt(part[0]);
      int outputs = Integer.parseInt(part[1]);
      ParityforgeLargest m = new ParityforgeLargest(inputs, outputs);
      Parityforge p = m.p;
      String[] assumptions = part[2].equals("-") ? new String[0] : part[2].split(",");
      int third = -1;
      int[] assumed = new int[assumptions.length];
      for (int i = 0; i < assumptions.length; i++) {
        assumed[i] = m.formula(assumptions[i]);
        if (i < 2) due(line, p.assume(assumed[i]), i + 1);
        else third = assumed[i];
      }
      String[] wishes = part[3].split(",");
      int[] wished = new int[wishes.length];
      for (int i = 0; i < wishes.length; i++) {
        wished[i] = m.formula(wishes[i]);
        due(line, p.wish(wished[i]), i + 1);
      }
      due(line, "" + p.verdict(), part[4]);
      due(line + ": rows", part[4].equals("?") ? "-" : rows(p, inputs, outputs), part[5]);
      StringBuilder core = new StringBuilder();
      for (int i = 0; part[4].equals("e") && i < p.core(); i++) core.append(p.coreAt(i));
      due(line + ": core", core.length() == 0 ? "-" : core.toString(), part[6]);
      if (third >= 0) due(line + ": one more", "" + p.verdictWith(third), part[7]);
      due(line + ": true", p.isTrue(), true);
      due(line + ": as before", "" + p.verdict(), part[4]);
      if (!part[4].equals("?")) wellOnWords(line, p, assumed, wished, part[4].equals("c"), inputs, outputs);
      due(line + ": all of them", p.drop(), Math.min(2, assumptions.length) + wishes.length);
    }
  }

  static String rows(Parityforge p, int inputs, int outputs) {
    StringBuilder rows = new StringBuilder();
    int letters = 1 << (p.verdict() == 'c' ? inputs : outputs);
    for (int state = 0; state < p.states(); state++) {
      for (int letter = 0; letter < letters; letter++) rows.append(p.given(state, letter)).append(p.next(state, letter));
    }
    return rows.toString();
  }

  /** Words of the machine found, from letters by turns: a controller's are all well, an environment's never. */
  static void wellOnWords(String line, Parityforge p, int[] assumed, int[] wished, boolean controller, int inputs, int outputs) {
    int letters = 1 << (controller ? inputs : outputs);
    for (int first = 0; first < letters; first++) {
      for (int second = 0; second < letters; second++) {
        p.replay(first, second);
        boolean kept = true;
        boolean well = true;
        for (int i = 0; i < Math.min(2, assumed.length); i++) kept &= p.holds(assumed[i], 0);
        for (int wish : wished) well &= p.holds(wish, 0);
        due(line + ": the word of " + first + ", " + second, !kept || well, controller);
      }
    }
  }

  /** What can be told by hand of four wishes that have many ways to be kept. */
  static void byHand() {
    // An environment that never gives an input breaks each one.
    ParityforgeLargest m = new ParityforgeLargest(2, 2);
    Parityforge p = m.p;
    String[] wishes = {"GUcXXXXa", "GUdXXXXa", "GUcXXXXb", "GUdXXXXb"};
    int[] made = new int[4];
    for (int i = 0; i < 4; i++) {
      made[i] = m.formula(wishes[i]);
      due("3: the largest size", p.size(made[i]), 8);
      due("4: " + wishes[i], p.canBe(made[i]), true);
      due("5: " + wishes[i], p.isValid(made[i]), false);
      due("12: " + wishes[i], p.wish(made[i]), i + 1);
    }
    for (int i = 0; i < 4; i++) {
      for (int k = 0; k < 4; k++) due("6: " + wishes[i] + " and " + wishes[k], p.follows(made[i], made[k]), i == k);
    }
    due("14: no input", p.verdict(), 'e');
    due("15: no input", p.states(), 1);
    due("16: no input", p.given(0, 0), 0);
    due("18: one is enough", p.core(), 1);
    due("19: the first one", p.coreAt(0), 0);
    due("38: no input", p.isTrue(), true);
    due("20: the first input must come", p.verdictWith(made[0]), 'e');
    // If both inputs come again and again, and after four places if not here, the outputs are due at the others.
    int first = m.formula("GUaXXXXa");
    int second = m.formula("GUbXXXXb");
    p.assume(first);
    due("14: the second input never", p.verdict(), 'e');
    due("19: the third wish", p.coreAt(0), 2);
    due("20: both inputs come", p.verdictWith(second), 'c');
    p.assume(second);
    due("14: both inputs come", p.verdict(), 'c');
    due("15: both inputs come", p.states(), 1);
    for (int input = 0; input < 4; input++) {
      due("16: an output for " + input, p.given(0, input), input == 0 ? 0 : 3);
      due("17: the one state", p.next(0, input), 0);
    }
    due("20: never kept together", p.verdictWith(m.formula("FG!a")), 'c');
    due("13: all", p.drop(), 6);
  }

  /** The longest chain of one kind, and what a chain of X is. */
  static void chains() {
    for (char kind : "!XFG".toCharArray()) {
      ParityforgeLargest m = new ParityforgeLargest(1, 1);
      Parityforge p = m.p;
      int a = m.formula("a");
      int long7 = m.formula(("" + kind).repeat(7) + "a");
      int once = m.formula(kind + "a");
      due("3: seven of " + kind, p.size(long7), 8);
      due("6: seven of " + kind, p.follows(long7, once), kind != 'X');
      due("6: one of " + kind, p.follows(once, long7), kind != 'X');
      due("6: " + kind + " from a", p.follows(a, long7), kind == 'F');
      due("6: a from " + kind, p.follows(long7, a), kind == 'G');
      due("6: F a", p.follows(long7, m.formula("Fa")), kind == 'X' || kind == 'F' || kind == 'G');
    }
    ParityforgeLargest m = new ParityforgeLargest(1, 1);
    Parityforge p = m.p;
    int seven = m.formula("XXXXXXXc");
    int six = m.formula("XXXXXXa");
    p.wish(seven);
    due("14: o seven places on", p.verdict(), 'c');
    due("16: o always", p.given(0, 0), 1);
    // By turns it can be told whether seven or six places were gone, not whether six or four were.
    p.wish(m.formula("XXXXXX!c"));
    due("14: not six places on", p.verdict(), 'c');
    due("15: not six places on", p.states(), 2);
    due("16: by turns", rows(p, 1, 1), "01011010");
    p.drop();
    p.wish(m.formula("XXXXXXc"));
    p.wish(m.formula("XXXX!c"));
    due("14: not four places on", p.verdict(), '?');
    p.assume(m.formula("XXXXa"));
    due("14: with an input there", p.verdict(), '?');
    due("20: and not six places on", p.verdictWith(m.formula("XXXXXX!a")), 'c');
    due("20: what a controller need not do", p.verdictWith(seven), 'c');
    p.assume(m.formula("XXXXXX!a"));
    due("14: by the input there", p.verdict(), 'c');
    due("16: by the input there", rows(p, 1, 1), "1000");
    due("20: never kept together", p.verdictWith(six), 'c');
  }

  /** All 60 formulas of sizes up to 8, each with each, in the 512 calls of one maker. */
  static void sixtyInOneRun() {
    for (int seed = 0; seed < 3; seed++) {
      Random random = new Random(seed);
      Parityforge p = new Parityforge(2, 2);
      for (int i = 0; i < 4; i++) p.formula(i < 2 ? 'i' : 'o', i % 2, 0);
      for (int i = 4; i < 8; i++) p.formula('X', i - 1, 0);
      for (int i = 8; i < 60; i++) {
        int far = i % 4;
        if (i % 2 == 0) p.formula("UWR|".charAt(far), random.nextInt(4), 4 + random.nextInt(4));
        else p.formula(i % 4 == 1 ? 'G' : 'F', i - 1, 0);
      }
      int calls = 61;
      due("37: 60 formulas", p.meanSize() <= 8.0, true);
      for (int i = 0; i < 60; i++) due("4: none is never", p.canBe(i), true);
      for (int i = 0; i < 60; i++) due("5: none is always", p.isValid(i), false);
      for (int i = 9; i < 60; i += 2) {
        boolean always = i % 4 == 1;
        due("6: G is here, here is F", p.follows(always ? i : i - 1, always ? i - 1 : i), true);
      }
      calls += 60 + 60 + 26;
      for (int w = 0; calls < 490; w++) {
        p.drop();
        for (int i = 0; i < 4; i++) p.wish(8 + (w * 11 + i * 13) % 52);
        for (int i = 0; i < 2; i++) p.assume(8 + (w * 7 + i * 5) % 52);
        char verdict = p.verdict();
        char with = p.verdictWith(8 + w * 3 % 52);
        due("20: a controller stays one", verdict != 'c' || with == 'c', true);
        due("20: never from an environment's verdict to none and back", p.verdict(), verdict);
        due("38: true", p.isTrue(), true);
        calls += 11;
      }
    }
  }

  public static void main(String[] args) {
    dearOnes();
    byHand();
    chains();
    sixtyInOneRun();
    System.out.println(asked + " calls, " + wrong + " not as due");
    if (wrong != 0) System.exit(1);
  }
}
