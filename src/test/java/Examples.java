import java.io.IOException;
import java.lang.reflect.Method;
import java.lang.reflect.Modifier;
import java.nio.file.Files;
import java.nio.file.Path;
import java.util.ArrayList;
import java.util.List;
import java.util.regex.Matcher;
import java.util.regex.Pattern;

/**
 * Makes a program of the examples that a text in Markdown shows: each statement behind which an
 * answer stands is asked for that answer. All examples of a text are one run.
 */
final class Examples {
  static final String PROGRAM = "ReadmeShows";

  private static final Pattern ANSWERED = Pattern.compile("(\\S[^;]*); *// (-?\\d+)(:.*)?");
  private static final Pattern THROWING = Pattern.compile("(\\S[^;]*); *// throws (\\w+)");
  private static final Pattern CALL = Pattern.compile("\\w+\\.\\w+\\(.*");

  final StringBuilder program = new StringBuilder();
  final List<String> flaws = new ArrayList<>();
  private final StringBuilder shown = new StringBuilder();
  private int answers = 0;

  Examples(List<String> lines) {
    program.append("public final class ").append(PROGRAM).append(" {\n");
    program.append("  public static void main(String[] args) {\n");
    program.append("    Due due = new Due();\n");
    boolean inExample = false;
    for (int i = 0; i < lines.size(); i++) {
      String line = lines.get(i);
      if (line.startsWith("```")) {
        inExample = line.equals("```java");
      } else if (inExample) {
        shown.append(line).append('\n');
        add(i + 1, line);
      }
    }
    program.append("    due.end();\n  }\n}\n");
    if (answers == 0) {
      flaws.add("no example tells an answer");
    }
  }

  /** Writes the program for the text (the first argument) into a directory (the second). */
  public static void main(String[] args) throws IOException {
    Examples examples = new Examples(Files.readAllLines(Path.of(args[0])));
    examples.lookForAllCalls();
    for (String flaw : examples.flaws) {
      System.out.println(args[0] + ": " + flaw);
    }
    if (!examples.flaws.isEmpty()) {
      System.exit(1);
    }
    Files.writeString(Path.of(args[1], PROGRAM + ".java"), examples.program);
  }

  /** How to use the class is said only if each call of its face is shown. */
  void lookForAllCalls() {
    for (Method method : DviPages.class.getDeclaredMethods()) {
      if (Modifier.isPublic(method.getModifiers()) && shown.indexOf("." + method.getName() + "(") < 0) {
        flaws.add("no example calls " + method.getName());
      }
    }
  }

  private void add(int number, String line) {
    Matcher answered = ANSWERED.matcher(line);
    Matcher throwing = THROWING.matcher(line);
    if (answered.matches()) {
      answers++;
      String call = answered.group(1);
      addLine("due.is(" + told(number, call) + ", " + call + ", " + answered.group(2) + "L);");
    } else if (throwing.matches()) {
      answers++;
      addThrowing(told(number, throwing.group(1)), throwing.group(1), throwing.group(2));
    } else {
      if (CALL.matcher(line).matches()) {
        flaws.add("line " + number + " tells no answer: " + line);
      }
      addLine(line);
    }
  }

  private void addThrowing(String told, String call, String exception) {
    addLine("boolean " + thrown() + " = false;");
    addLine("try {");
    addLine("  " + call + ";");
    addLine("} catch (" + exception + " e) {");
    addLine("  " + thrown() + " = e.getClass() == " + exception + ".class;");
    addLine("}");
    addLine("due.holds(" + told + ", " + thrown() + ");");
  }

  /** A name of its own for each, for all examples share one scope. */
  private String thrown() {
    return "isThrown" + answers;
  }

  private static String told(int number, String call) {
    return "\"line " + number + ": " + call.replace("\\", "\\\\").replace("\"", "\\\"") + "\"";
  }

  private void addLine(String line) {
    program.append("    ").append(line).append('\n');
  }
}
