import java.io.IOException;
import java.lang.reflect.Method;
import java.nio.file.Files;
import java.nio.file.Path;
import java.util.ArrayList;
import java.util.List;
import java.util.regex.Matcher;
import java.util.regex.Pattern;

/**
 * Makes a program of the example in README.md that fails if an answer that the example tells is not
 * the one that is given. Its arguments are the path of README.md and that of the program to write,
 * whose class is ReadmeRun.
 */
public final class ReadmeProgram {
  private static final String CLASS = "ReadmeRun";

  /** A call in the example, with a variable that takes its answer or without, and what is due. */
  private static final Pattern TOLD =
      Pattern.compile("(?:(\\w+ \\w+) = )?(crate\\..*); +// (answers|throws) (\\w+).*");

  private ReadmeProgram() {}

  public static void main(String[] paths) throws IOException {
    if (paths.length != 2) {
      fail("the paths of README.md and of the program are needed");
      return;
    }
    List<String> readme = Files.readAllLines(Path.of(paths[0]));
    nameEveryMethod(String.join("\n", readme));
    List<String> example = exampleIn(readme);
    if (example.stream().noneMatch(line -> TOLD.matcher(line).matches())) {
      fail("README.md has no example that tells answers");
    }
    Files.write(Path.of(paths[1]), program(example));
  }

  private static void nameEveryMethod(String readme) {
    for (Method method : Answers.methodsOf(Smartcrate.class)) {
      if (!readme.contains("`" + method.getName() + "`")) {
        fail("README.md does not name " + method.getName());
      }
    }
  }

  private static void fail(String what) {
    System.out.println(what);
    System.exit(1);
  }

  private static List<String> exampleIn(List<String> readme) {
    int start = readme.indexOf("```java");
    if (start < 0) {
      return List.of();
    }
    List<String> behind = readme.subList(start + 1, readme.size());
    int end = behind.indexOf("```");
    return behind.subList(0, end < 0 ? behind.size() : end);
  }

  private static List<String> program(List<String> example) {
    List<String> lines = new ArrayList<>();
    lines.add("public final class " + CLASS + " {");
    lines.add("  interface Call { Object run(); }");
    lines.add("  static int wrong = 0;");
    lines.add("  static void due(String call, String due, Object got) {");
    lines.add("    if (due.equals(String.valueOf(got))) { return; }");
    lines.add("    System.out.println(call + \" answered \" + got + \", README.md tells \" + due);");
    lines.add("    wrong++;");
    lines.add("  }");
    lines.add("  static Object thrown(Call call) {");
    lines.add("    try { return call.run(); }");
    lines.add("    catch (RuntimeException e) { return e.getClass().getSimpleName(); }");
    lines.add("  }");
    lines.add("  public static void main(String[] none) {");
    for (String line : example) {
      lines.add("    " + checked(line));
    }
    lines.add("    if (wrong > 0) { System.exit(1); }");
    lines.add("    System.out.println(\"the example answers as it tells\");");
    lines.add("  }");
    lines.add("}");
    return lines;
  }

  /** A line that tells nothing stays as it is. */
  private static String checked(String line) {
    Matcher told = TOLD.matcher(line);
    if (!told.matches()) {
      return line;
    }
    String variable = told.group(1);
    String call = told.group(2);
    String due = "due(\"" + call.replace("\"", "\\\"") + "\", \"" + told.group(4) + "\", ";
    if (variable != null) {
      String name = variable.substring(variable.indexOf(' ') + 1);
      return variable + " = " + call + "; " + due + name + ");";
    }
    return due + (told.group(3).equals("throws") ? "thrown(() -> " + call + "));" : call + ");");
  }
}
