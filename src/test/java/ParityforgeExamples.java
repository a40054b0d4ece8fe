import java.io.IOException;
import java.lang.reflect.InvocationTargetException;
import java.lang.reflect.Method;
import java.nio.file.Files;
import java.nio.file.Path;
import java.util.ArrayList;
import java.util.List;

/** The rows of the document's examples, and the runs of README.md, with every result that stands there. */
public final class ParityforgeExamples {
  static final String[] EXAMPLES = {
    "new Parityforge(1, 1); formula('i', 0, 0) = 0; formula('o', 0, 0) = 1; formula('>', 0, 1) = 2;"
        + " formula('G', 2, 0) = 3; wish(3) = 1; verdict() = 'c'; given(0, 1) = 1; isTrue() = true.",
    "new Parityforge(1, 1); formula('i', 0, 0) = 0; formula('X', 0, 0) = 1; formula('o', 0, 0) = 2;"
        + " formula('>', 1, 2) = 3; formula('>', 2, 1) = 4; formula('&', 3, 4) = throws UnsupportedOperationException;"
        + " formula('G', 5, 0) = throws IndexOutOfBoundsException; wish(6) = throws IndexOutOfBoundsException;"
        + " verdict() = 'c'; next(0, 0) = 0.",
    "new Parityforge(1, 1); node(0, 1) = 0; node(1, 2) = 1; edge(0, 1, true) = false; edge(1, 0, true) = false;"
        + " winner(0) = 0; move(0) = 1; lasting(1) = 2.",
    "new Parityforge(2, 2); formula('q', 0, 0) = throws IllegalArgumentException;"
        + " setLoop(0) = throws IndexOutOfBoundsException; core() = throws UnsupportedOperationException;"
        + " won(3) = throws IllegalArgumentException; wonShare() = throws ArithmeticException."
  };

  static int wrong = 0;
  static int asked = 0;

  static List<Object> numbersOf(String call) {
    List<Object> numbers = new ArrayList<>();
    String inside = call.substring(call.indexOf('(') + 1, call.lastIndexOf(')'));
    for (String part : inside.isEmpty() ? new String[0] : inside.split(", ")) {
      if (part.startsWith("'")) numbers.add(part.charAt(1));
      else if (part.equals("true") || part.equals("false")) numbers.add(part.equals("true"));
      else numbers.add(Integer.parseInt(part));
    }
    return numbers;
  }

  static Parityforge made(String call) {
    List<Object> numbers = numbersOf(call);
    return new Parityforge((Integer) numbers.get(0), (Integer) numbers.get(1));
  }

  static String answer(Parityforge p, String call) {
    String name = call.substring(0, call.indexOf('('));
    for (Method m : Parityforge.class.getMethods()) {
      if (!m.getName().equals(name)) continue;
      try {
        Object answer = m.invoke(p, numbersOf(call).toArray());
        return answer instanceof Character ? "'" + answer + "'" : "" + answer;
      } catch (InvocationTargetException e) {
        return "throws " + e.getCause().getClass().getSimpleName();
      } catch (IllegalAccessException e) {
        break;
      }
    }
    return "is no call";
  }

  static void compare(String where, Parityforge p, String call, String due) {
    asked++;
    String got = answer(p, call);
    if (!got.equals(due)) {
      wrong++;
      System.out.println(where + ": " + call + " answered " + got + ", due is " + due);
    }
  }

  static void runExample(String row) {
    String[] calls = row.substring(0, row.length() - 1).split("; ");
    Parityforge p = made(calls[0]);
    for (int i = 1; i < calls.length; i++) {
      int at = calls[i].lastIndexOf(" = ");
      compare("example", p, calls[i].substring(0, at), calls[i].substring(at + 3));
    }
  }

  /** In README.md the result stands behind "// = ", up to a comma. */
  static int runReadme() throws IOException {
    int runs = 0;
    Parityforge p = null;
    for (String line : Files.readAllLines(Path.of("README.md"))) {
      if (line.startsWith("Parityforge p = ")) {
        p = made(line.substring(0, line.indexOf(';')));
        runs++;
      } else if (line.startsWith("p.")) {
        String due = line.substring(line.indexOf("// = ") + 5).split(",")[0];
        compare("README.md", p, line.substring(2, line.indexOf(';')), due);
      }
    }
    return runs;
  }

  public static void main(String[] args) throws IOException {
    for (String row : EXAMPLES) runExample(row);
    int runs = runReadme();
    System.out.println(asked + " calls, " + runs + " runs of README.md, " + wrong + " not as due");
    if (wrong != 0 || runs != 4) System.exit(1);
  }
}
