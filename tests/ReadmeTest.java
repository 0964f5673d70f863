import java.io.IOException;
import java.net.URL;
import java.net.URLClassLoader;
import java.nio.file.Files;
import java.nio.file.Path;
import java.util.ArrayList;
import java.util.Arrays;
import java.util.Comparator;
import java.util.List;
import java.util.Set;
import java.util.TreeSet;
import java.util.regex.Matcher;
import java.util.regex.Pattern;
import java.util.stream.Stream;
import javax.tools.ToolProvider;

/**
 * README.md: its java blocks are compiled as they stand, and each call in them answers what stands behind its //; its
 * FINDINGS bear the numbers of the document; the files that it names are there. Runs at the root.
 */
public final class ReadmeTest {
  private static final Path README = Path.of("README.md");
  private static final Pattern BLOCK = Pattern.compile("(?ms)^```java\\n(.*?)^```$");
  private static final Pattern CALL = Pattern.compile("(int \\w+ = )?(.+\\));\\s+// (-?\\d+)(:.*)?");
  private static final Pattern ROW = Pattern.compile("(?m)^\\| (\\w+) \\| (-\\d+) \\|");
  private static final Pattern FILE = Pattern.compile("`(\\.\\./shared/[\\w./]+|src/[\\w./]+|\\.ci/run|tests/\\w+\\.java"
      + "|\\w+Test|NOTES\\.md)`");

  private final List<String> calls = new ArrayList<>();
  private final List<Integer> due = new ArrayList<>();

  public static void main(String[] args) throws Exception {
    String readme = Files.readString(README);
    ReadmeTest test = new ReadmeTest();
    test.ask(test.program(readme));
    test.eachCallIsShown();
    findings(readme);
    files(readme);
    Check.end();
  }

  /** The blocks as a class; a block that begins with "static" stands beside the others, these go on one by one. */
  private String program(String readme) {
    StringBuilder functions = new StringBuilder();
    StringBuilder main = new StringBuilder();
    Matcher m = BLOCK.matcher(readme);
    while (m.find()) {
      if (m.group(1).startsWith("static ")) {
        functions.append(m.group(1));
      } else {
        main.append("{\n").append(statements(m.group(1))).append("}\n");
      }
    }
    return "public final class ReadmeCalls {\n"
        + "public static final java.util.List<Integer> GOT = new java.util.ArrayList<>();\n"
        + "private static int told(int answer) { GOT.add(answer); return answer; }\n" + functions
        + "public static void main(String[] args) {\n" + main + "}\n}\n";
  }

  private String statements(String block) {
    StringBuilder all = new StringBuilder();
    for (String line : block.split("\n")) {
      Matcher m = CALL.matcher(line);
      if (m.matches()) {
        calls.add(m.group(2));
        due.add(Integer.parseInt(m.group(3)));
        all.append(m.group(1) == null ? "" : m.group(1)).append("told(").append(m.group(2)).append(");\n");
      } else {
        boolean isNew = line.equals("FedHen hen = new FedHen();");
        Check.due("README.md: '" + line + "' tells its answer", isNew || line.isEmpty() ? 1 : 0, 1);
        all.append(line).append('\n');
      }
    }
    return all.toString();
  }

  private void ask(String program) throws Exception {
    Path into = Files.createTempDirectory("readme");
    try {
      Path file = Files.writeString(into.resolve("ReadmeCalls.java"), program);
      int failed = ToolProvider.getSystemJavaCompiler().run(null, null, null, "-cp",
          System.getProperty("java.class.path"), "-d", into.toString(), file.toString());
      Check.due("compiling the blocks of README.md", failed, 0);
      if (failed == 0) {
        run(into);
      }
    } finally {
      remove(into);
    }
  }

  private void run(Path into) throws Exception {
    try (URLClassLoader loader = new URLClassLoader(new URL[] {into.toUri().toURL()})) {
      Class<?> c = loader.loadClass("ReadmeCalls");
      c.getMethod("main", String[].class).invoke(null, (Object) new String[0]);
      List<?> got = (List<?>) c.getField("GOT").get(null);
      Check.due("calls that README.md shows", got.size(), due.size());
      for (int i = 0; i < Math.min(got.size(), due.size()); i++) {
        Check.due("README.md: " + calls.get(i), (Integer) got.get(i), due.get(i));
      }
    }
  }

  private static void remove(Path into) throws IOException {
    List<Path> all;
    try (Stream<Path> below = Files.walk(into)) {
      all = below.sorted(Comparator.reverseOrder()).toList();
    }
    for (Path path : all) {
      Files.delete(path);
    }
  }

  private void eachCallIsShown() {
    Set<String> left = new TreeSet<>();
    Arrays.stream(FedHen.class.getDeclaredMethods()).filter(m -> (m.getModifiers() & 1) != 0)
        .forEach(m -> left.add(m.getName()));
    left.removeIf(name -> calls.stream().anyMatch(call -> call.startsWith("hen." + name + "(")));
    Check.due("calls that README.md doesn't show, " + left, left.size(), 0);
  }

  private static void findings(String readme) {
    int rows = 0;
    Matcher m = ROW.matcher(readme);
    while (m.find()) {
      rows++;
      Check.due("README.md: the number of " + m.group(1), Integer.parseInt(m.group(2)),
          Rows.answerOf("= " + m.group(1)));
    }
    Check.due("FINDINGS in README.md", rows, 7);
  }

  private static void files(String readme) {
    Matcher m = FILE.matcher(readme);
    while (m.find()) {
      String name = m.group(1).endsWith("Test") ? "tests/" + m.group(1) + ".java" : m.group(1);
      Check.due("README.md: " + name + " is there", Files.exists(Path.of(name)) ? 1 : 0, 1);
    }
  }
}
