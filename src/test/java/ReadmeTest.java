import java.io.IOException;
import java.io.UncheckedIOException;
import java.lang.reflect.Method;
import java.lang.reflect.Modifier;
import java.nio.charset.StandardCharsets;
import java.nio.file.Files;
import java.nio.file.Path;
import java.util.ArrayList;
import java.util.Comparator;
import java.util.List;
import java.util.stream.Stream;
import javax.tools.JavaCompiler;
import javax.tools.ToolProvider;

/** What README.md shows of the class's use; the example is taken from README.md itself, so that it can't grow old. */
public final class ReadmeTest {
  private static final Path README = Path.of("README.md");
  private static final Path MAIN = Path.of("src", "main", "java", "ImageGate.java");

  public static void main(String[] args) {
    new Sentences("README.md, Use")
        .test("there is one example, and what it prints", ReadmeTest::oneExample)
        .test("the example compiles together with the class, and prints what README.md says", ReadmeTest::prints)
        .test("every call of the face is told", ReadmeTest::tellsAllCalls)
        .finish();
  }

  private static void oneExample(Check check) {
    check.due("blocks of java", blocks("java").size(), 1);
    check.due("blocks of text", blocks("text").size(), 1);
  }

  private static void prints(Check check) {
    List<List<String>> examples = blocks("java");
    List<List<String>> printed = blocks("text");
    if (examples.isEmpty() || printed.isEmpty()) {
      check.yes("an example, and what it prints", false);
      return;
    }
    List<String> got = outputOf(examples.get(0), check);
    List<String> want = printed.get(0);
    check.due("how many lines it prints", got.size(), want.size());
    for (int i = 0; i < Math.min(got.size(), want.size()); i++) {
      check.yes("line " + (i + 1) + ", '" + got.get(i) + "' as '" + want.get(i) + "'", got.get(i).equals(want.get(i)));
    }
  }

  private static void tellsAllCalls(Check check) {
    String text = String.join("\n", lines(README));
    for (Method method : ImageGate.class.getDeclaredMethods()) {
      if (Modifier.isPublic(method.getModifiers())) {
        check.yes("README.md has " + method.getName(), text.contains("`" + method.getName() + "("));
      }
    }
  }

  /** The blocks of README.md that are fenced with this word, each by its lines. */
  private static List<List<String>> blocks(String word) {
    List<List<String>> found = new ArrayList<>();
    List<String> open = null;
    for (String line : lines(README)) {
      if (open == null && line.startsWith("```")) {
        open = new ArrayList<>();
        if (line.equals("```" + word)) {
          found.add(open);
        }
      } else if (line.equals("```")) {
        open = null;
      } else if (open != null) {
        open.add(line);
      }
    }
    return found;
  }

  private static List<String> outputOf(List<String> example, Check check) {
    Path build = null;
    try {
      build = Files.createTempDirectory("readme");
      Path source = Files.write(build.resolve("Example.java"), example);
      check.yes("the example compiles", compiles(build, source));
      Path output = build.resolve("output.txt");
      check.due("its exit code", run(build, output), 0);
      return lines(output);
    } catch (IOException e) {
      throw new UncheckedIOException(e);
    } finally {
      remove(build);
    }
  }

  private static boolean compiles(Path build, Path source) {
    JavaCompiler compiler = ToolProvider.getSystemJavaCompiler();
    String[] words = {
      "--release", "17", "-Xlint:all", "-Werror", "-d", build.toString(), MAIN.toString(), source.toString()
    };
    return compiler != null && compiler.run(null, null, null, words) == 0;
  }

  private static int run(Path build, Path output) throws IOException {
    String java = Path.of(System.getProperty("java.home"), "bin", "java").toString();
    Process process = new ProcessBuilder(java, "-cp", build.toString(), "Example")
        .redirectError(ProcessBuilder.Redirect.INHERIT)
        .redirectOutput(output.toFile())
        .start();
    try {
      return process.waitFor();
    } catch (InterruptedException e) {
      throw new IllegalStateException(e);
    }
  }

  private static List<String> lines(Path path) {
    try {
      return Files.readAllLines(path, StandardCharsets.UTF_8);
    } catch (IOException e) {
      throw new UncheckedIOException(e);
    }
  }

  private static void remove(Path build) {
    if (build == null) {
      return;
    }
    try (Stream<Path> inside = Files.walk(build)) {
      inside.sorted(Comparator.reverseOrder()).forEach(path -> path.toFile().delete());
    } catch (IOException e) {
      throw new UncheckedIOException(e);
    }
  }
}
