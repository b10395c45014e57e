import java.util.List;

/** Examples: what stands in a text is asked, and what it does not tell is a flaw. */
public final class ExamplesTest {
  private static final Due DUE = new Due();

  public static void main(String[] args) {
    answersAreAsked();
    exceptionsAreAsked();
    otherLinesStay();
    onlyExamplesAreTaken();
    flawsAreTold();
    DUE.end();
  }

  private static void answersAreAsked() {
    shows("x.font(3, 77);  // 1", "    due.is(\"line 2: x.font(3, 77)\", x.font(3, 77), 1L);\n");
    shows("x.set(65, true); // -3: no page", "    due.is(\"line 2: x.set(65, true)\", x.set(65, true), -3L);\n");
  }

  private static void exceptionsAreAsked() {
    shows("x.octet(5);   // throws Some", "    boolean isThrown1 = false;\n    try {\n      x.octet(5);\n"
        + "    } catch (Some e) {\n      isThrown1 = e.getClass() == Some.class;\n    }\n"
        + "    due.holds(\"line 2: x.octet(5)\", isThrown1);\n");
  }

  private static void otherLinesStay() {
    shows("DviPages x = new DviPages();", "    DviPages x = new DviPages();\n");
    shows("  y.load(octet, 1);", "      y.load(octet, 1);\n");
  }

  private static void onlyExamplesAreTaken() {
    Examples none = new Examples(List.of("x.read();  // 1", "```sh", "x.read();  // 1", "```", "x.read();  // 1"));
    DUE.is("text and commands", body(none), "");
    DUE.is("text and commands", none.flaws.toString(), "[no example tells an answer]");
  }

  private static void flawsAreTold() {
    Examples silent = new Examples(List.of("```java", "x.read();  // 1", "x.loop();", "```"));
    DUE.is("no answer", silent.flaws.toString(), "[line 3 tells no answer: x.loop();]");
    Examples vague = new Examples(List.of("```java", "x.read();  // 1", "x.loop();  // bytes", "```"));
    DUE.is("words only", vague.flaws.toString(), "[line 3 tells no answer: x.loop();  // bytes]");
    Examples few = new Examples(List.of("```java", "x.read();  // 1", "```"));
    DUE.is("nothing to tell", few.flaws.size(), 0);
    few.lookForAllCalls();
    DUE.is("all calls but read", few.flaws.size(), 22);
    DUE.holds("font is missing", few.flaws.contains("no example calls font"));
    DUE.holds("read is there", !few.flaws.contains("no example calls read"));
  }

  private static void shows(String line, String becomes) {
    DUE.is(line, body(new Examples(List.of("```java", line, "```"))), becomes);
  }

  private static String body(Examples examples) {
    String program = examples.program.toString();
    String before = "Due due = new Due();\n";
    return program.substring(program.indexOf(before) + before.length(), program.indexOf("    due.end();"));
  }
}
