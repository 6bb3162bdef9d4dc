import java.io.IOException;
import java.net.URL;
import java.net.URLClassLoader;
import java.nio.file.Files;
import java.nio.file.Path;
import java.util.ArrayList;
import java.util.Comparator;
import java.util.List;
import java.util.regex.Matcher;
import java.util.regex.Pattern;
import javax.tools.ToolProvider;

/** Runs the examples of README.md: each call there must answer or throw what stands behind it. */
public final class ReadmeTest {
  private static final Path README = Path.of("README.md");
  private static final Pattern ANSWERS = Pattern.compile("(?:int (\\w+) = )?(.+); +// answers (-?\\d+)\\b.*");
  private static final Pattern THROWS = Pattern.compile("(.+); +// throws (\\w+)");
  private static int told = 0;

  private ReadmeTest() {
  }

  public static void main(String[] args) throws Exception {
    List<String> examples = examples();
    Due.same("there are examples", examples.isEmpty() ? 0 : 1, 1);
    for (String wrong : answersOf(program(examples))) {
      Due.same("README.md: " + wrong, 0, 1);
    }
    Due.same("there are answers", told > 0 ? 1 : 0, 1);
    Due.end();
  }

  private static List<String> examples() throws IOException {
    List<String> found = new ArrayList<>();
    Matcher block = Pattern.compile("(?s)```java\n(.*?)```").matcher(Files.readString(README));
    while (block.find()) {
      found.add(block.group(1));
    }
    return found;
  }

  private static String program(List<String> examples) {
    StringBuilder text = new StringBuilder("public final class Examples {\n");
    text.append("  private static final java.util.List<String> WRONG = new java.util.ArrayList<>();\n");
    text.append("  private static void due(String call, int got, int want) {\n");
    text.append("    if (got != want) { WRONG.add(call + \" answered \" + got + \", not \" + want); }\n  }\n");
    text.append("  public static java.util.List<String> wrong() {\n");
    for (String example : examples) {
      text.append("    {\n");
      example.lines().forEach(line -> text.append(checked(line)).append('\n'));
      text.append("    }\n");
    }
    return text.append("    return WRONG;\n  }\n}\n").toString();
  }

  /** The line itself, or with a check of what stands behind its call. */
  private static String checked(String line) {
    Matcher answers = ANSWERS.matcher(line);
    if (answers.matches()) {
      told++;
      String check = "due(\"" + answers.group(2) + "\", ";
      return answers.group(1) == null ? check + answers.group(2) + ", " + answers.group(3) + ");"
          : "int " + answers.group(1) + " = " + answers.group(2) + "; " + check + answers.group(1) + ", "
              + answers.group(3) + ");";
    }
    Matcher thrown = THROWS.matcher(line);
    if (thrown.matches()) {
      told++;
      return "try { " + thrown.group(1) + "; due(\"" + thrown.group(1) + " throws\", 0, 1); } catch ("
          + thrown.group(2) + " e) { }";
    }
    return line;
  }

  private static List<String> answersOf(String program) throws Exception {
    Path made = Files.createTempDirectory("readme");
    try {
      Path source = Files.writeString(made.resolve("Examples.java"), program);
      int failed = ToolProvider.getSystemJavaCompiler().run(null, null, null, "-cp",
          System.getProperty("java.class.path"), "-d", made.toString(), source.toString());
      Due.same("the examples compile", failed, 0);
      return failed != 0 ? List.of() : run(made);
    } finally {
      remove(made);
    }
  }

  private static List<String> run(Path made) throws Exception {
    try (URLClassLoader loader = new URLClassLoader(new URL[] {made.toUri().toURL()})) {
      List<String> wrong = new ArrayList<>();
      for (Object text : (List<?>) loader.loadClass("Examples").getMethod("wrong").invoke(null)) {
        wrong.add(text.toString());
      }
      return wrong;
    }
  }

  private static void remove(Path directory) throws IOException {
    try (var paths = Files.walk(directory)) {
      for (Path path : paths.sorted(Comparator.reverseOrder()).toList()) {
        Files.delete(path);
      }
    }
  }
}
