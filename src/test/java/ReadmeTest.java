import java.net.URL;
import java.net.URLClassLoader;
import java.nio.file.Files;
import java.nio.file.Path;
import java.util.regex.Matcher;
import java.util.regex.Pattern;
import javax.tools.ToolProvider;

/** The README's example is compiled as it stands there; each of its calls must answer what the line ends with. */
public final class ReadmeTest {
  private static final Pattern BLOCK = Pattern.compile("```java\n(.*?)```", Pattern.DOTALL);
  private static final Pattern NAMED = Pattern.compile("int (\\w+) = (hum\\.\\w+\\(.*\\)); +// (-?\\d+): .*");
  private static final Pattern PLAIN = Pattern.compile("(hum\\.\\w+\\(.*\\)); +// (-?\\d+): .*");

  public static void main(String[] args) throws Exception {
    Path main = Path.of(System.getProperty("hum.main", "src/main/java/HumUnheard.java")).toAbsolutePath();
    String readme = Files.readString(main.resolve("../../../../README.md").normalize());
    Matcher blocks = BLOCK.matcher(readme);
    if (!blocks.find()) throw new IllegalStateException("README.md has no example");
    String body = withAnswers(blocks.group(1));
    StringBuilder helpers = new StringBuilder();
    while (blocks.find()) helpers.append(blocks.group(1));
    int wrong = run(program(body, helpers.toString()));
    System.out.println(wrong == 0 ? "the README's example answers as it says" : wrong + " lines of the README's example are wrong");
    if (wrong != 0) System.exit(1);
  }

  /** The lines of the example, each call within a look at its answer. */
  private static String withAnswers(String example) {
    StringBuilder b = new StringBuilder();
    for (String line : example.split("\n")) {
      Matcher named = NAMED.matcher(line);
      Matcher plain = PLAIN.matcher(line);
      if (named.matches()) b.append("int ").append(named.group(1)).append(" = (int) ").append(due(named.group(2), named.group(3)));
      else if (plain.matches()) b.append(due(plain.group(1), plain.group(2)));
      else if (line.contains("hum.")) throw new IllegalStateException("no answer told: " + line);
      else b.append(line);
      b.append('\n');
    }
    return b.toString();
  }

  private static String due(String call, String want) {
    return "due(\"" + call.replace("\"", "'") + "\", " + call + ", " + want + "L);";
  }

  private static String program(String body, String helpers) {
    return "public final class Example {\n"
        + "public static int wrong = 0;\n"
        + "static long due(String call, long got, long want) {\n"
        + "  if (got != want) { wrong++; System.out.println(call + \" answered \" + got + \", README.md says \" + want); }\n"
        + "  return got;\n}\n" + helpers + "public static int run() {\n" + body + "return wrong;\n}\n}\n";
  }

  private static int run(String text) throws Exception {
    Path built = Files.createTempDirectory("readme");
    Path file = built.resolve("Example.java");
    try {
      Files.writeString(file, text);
      String path = System.getProperty("java.class.path");
      int failed = ToolProvider.getSystemJavaCompiler().run(null, null, null, "-cp", path, "-d", built.toString(), file.toString());
      if (failed != 0) return 1;
      try (URLClassLoader loader = new URLClassLoader(new URL[] {built.toUri().toURL()})) {
        return (int) loader.loadClass("Example").getMethod("run").invoke(null);
      }
    } finally {
      Files.deleteIfExists(built.resolve("Example.class"));
      Files.deleteIfExists(file);
      Files.delete(built);
    }
  }
}
