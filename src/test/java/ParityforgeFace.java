import java.lang.reflect.Constructor;
import java.lang.reflect.Field;
import java.lang.reflect.Method;
import java.lang.reflect.Modifier;
import java.util.Arrays;
import java.util.TreeSet;

/** The public face is that of the document, with nothing more. */
public final class ParityforgeFace {
  static final String[] DUE = {
    "int formula(char, int, int)", "int size(int)", "boolean canBe(int)", "boolean isValid(int)",
    "boolean follows(int, int)", "int letter(int)", "int setLoop(int)", "int clearWord()", "boolean holds(int, int)",
    "int assume(int)", "int wish(int)", "int drop()", "char verdict()", "int states()", "int given(int, int)",
    "int next(int, int)", "int core()", "int coreAt(int)", "char verdictWith(int)", "int begin()", "int step(int)",
    "int state()", "int steps()", "int replay(int, int)", "int node(int, int)", "boolean edge(int, int, boolean)",
    "int setPriority(int, int)", "int clearGame()", "int winner(int)", "int winnerAnew(int)", "int won(int)",
    "int move(int)", "int lasting(int)", "long sum()", "float wonShare()", "double meanSize()", "boolean isTrue()",
  };

  public static void main(String[] args) {
    TreeSet<String> due = new TreeSet<>(Arrays.asList(DUE));
    TreeSet<String> got = new TreeSet<>();
    for (Method m : Parityforge.class.getDeclaredMethods()) {
      if (!Modifier.isPrivate(m.getModifiers()) && !m.isSynthetic()) {
        StringBuilder text = new StringBuilder(m.getReturnType() + " " + m.getName() + "(");
        for (Class<?> c : m.getParameterTypes()) text.append(text.charAt(text.length() - 1) == '(' ? "" : ", ").append(c);
        got.add(text + ")");
      }
    }
    for (Field f : Parityforge.class.getDeclaredFields()) {
      if (!Modifier.isPrivate(f.getModifiers()) && !f.isSynthetic()) got.add("field " + f.getName());
    }
    Constructor<?>[] constructors = Parityforge.class.getDeclaredConstructors();
    boolean made = constructors.length == 1 && Modifier.isPublic(constructors[0].getModifiers())
        && Arrays.equals(constructors[0].getParameterTypes(), new Class<?>[] {int.class, int.class});
    int kind = Modifier.PUBLIC | Modifier.FINAL;
    if (!due.equals(got) || !made || Parityforge.class.getModifiers() != kind) {
      System.out.println("the face is " + got + ", due is " + due);
      System.exit(1);
    }
    System.out.println("the face is as due");
  }
}
