import java.lang.reflect.Constructor;
import java.lang.reflect.Field;
import java.lang.reflect.Method;
import java.lang.reflect.Modifier;
import java.util.Arrays;
import java.util.TreeSet;

/** The public face is that of the document, with nothing more. */
public final class ParityforgeFace {
  static final String[] DUE = {
    "int formula(char, int, int) throws IllegalArgumentException, IndexOutOfBoundsException,"
        + " UnsupportedOperationException, IllegalStateException",
    "int size(int) throws IndexOutOfBoundsException",
    "boolean canBe(int) throws IndexOutOfBoundsException",
    "boolean isValid(int) throws IndexOutOfBoundsException",
    "boolean follows(int, int) throws IndexOutOfBoundsException",
    "int letter(int) throws IllegalArgumentException, IllegalStateException",
    "int setLoop(int) throws IndexOutOfBoundsException",
    "int clearWord()",
    "boolean holds(int, int) throws IndexOutOfBoundsException, IllegalArgumentException, IllegalStateException",
    "int assume(int) throws IndexOutOfBoundsException, IllegalStateException",
    "int wish(int) throws IndexOutOfBoundsException, IllegalStateException",
    "int drop()",
    "char verdict()",
    "int states()",
    "int given(int, int) throws UnsupportedOperationException, IndexOutOfBoundsException",
    "int next(int, int) throws UnsupportedOperationException, IndexOutOfBoundsException",
    "int core() throws UnsupportedOperationException",
    "int coreAt(int) throws UnsupportedOperationException, IndexOutOfBoundsException",
    "char verdictWith(int) throws IndexOutOfBoundsException",
    "int begin() throws UnsupportedOperationException",
    "int step(int) throws IllegalStateException, IllegalArgumentException",
    "int state() throws IllegalStateException",
    "int steps() throws IllegalStateException",
    "int replay(int, int) throws UnsupportedOperationException, IllegalArgumentException",
    "int node(int, int) throws IllegalArgumentException, IllegalStateException",
    "boolean edge(int, int, boolean) throws IndexOutOfBoundsException",
    "int setPriority(int, int) throws IndexOutOfBoundsException, IllegalArgumentException",
    "int clearGame()",
    "int winner(int) throws IndexOutOfBoundsException, IllegalStateException",
    "int winnerAnew(int) throws IndexOutOfBoundsException, IllegalStateException",
    "int won(int) throws IllegalArgumentException, IllegalStateException",
    "int move(int) throws IndexOutOfBoundsException, IllegalStateException, NoSuchElementException",
    "int lasting(int) throws IndexOutOfBoundsException, IllegalStateException",
    "long sum() throws IllegalStateException",
    "float wonShare() throws ArithmeticException, IllegalStateException",
    "double meanSize() throws ArithmeticException",
    "boolean isTrue()",
  };

  public static void main(String[] args) {
    TreeSet<String> due = new TreeSet<>(Arrays.asList(DUE));
    TreeSet<String> got = new TreeSet<>();
    for (Method m : Parityforge.class.getDeclaredMethods()) {
      if (!Modifier.isPrivate(m.getModifiers()) && !m.isSynthetic()) {
        StringBuilder text = new StringBuilder(m.getReturnType() + " " + m.getName() + "(");
        for (Class<?> c : m.getParameterTypes()) text.append(text.charAt(text.length() - 1) == '(' ? "" : ", ").append(c);
        text.append(')');
        String before = " throws ";
        for (Class<?> c : m.getExceptionTypes()) {
          text.append(before).append(c.getSimpleName());
          before = ", ";
        }
        got.add(text.toString());
      }
    }
    for (Field f : Parityforge.class.getDeclaredFields()) {
      if (!Modifier.isPrivate(f.getModifiers()) && !f.isSynthetic()) got.add("field " + f.getName());
    }
    Constructor<?>[] constructors = Parityforge.class.getDeclaredConstructors();
    boolean made = constructors.length == 1 && Modifier.isPublic(constructors[0].getModifiers())
        && Arrays.equals(constructors[0].getParameterTypes(), new Class<?>[] {int.class, int.class});
    int kind = Modifier.PUBLIC | Modifier.FINAL;
    if (!due.equals(got) || !made || Parityforge.class.getModifiers() != kind) {
      System.out.println("the face is " + got + ", due is " + due);
      System.exit(1);
    }
    System.out.println("the face is as due");
  }
}
