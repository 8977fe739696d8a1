import java.io.IOException;
import java.lang.reflect.Method;
import java.lang.reflect.Modifier;
import java.nio.file.Files;
import java.nio.file.Path;
import java.util.List;
import java.util.stream.Collectors;
import java.util.stream.Stream;

/** README.md: its example answers what it says, and it names every call and every test. */
public final class ReadmeTest {
  private static final Check check = new Check();
  private static final Path TESTS = Path.of("src/test/java");

  public static void main(String[] args) throws IOException {
    String readme = Files.readString(Path.of("README.md"));
    example(readme);
    for (Method method : CiteLists.class.getDeclaredMethods()) {
      if (Modifier.isPublic(method.getModifiers())) {
        check.due("README names " + method.getName(), true,
            readme.contains("| `" + method.getName() + "("));
      }
    }
    for (String test : testNames()) {
      check.due("README names " + test, true, readme.contains("| " + test + " |"));
    }
    check.end("ReadmeTest");
  }

  private static List<String> testNames() throws IOException {
    try (Stream<Path> files = Files.list(TESTS)) {
      return files.map(file -> file.getFileName().toString())
          .filter(name -> name.endsWith("Test.java"))
          .map(name -> name.substring(0, name.length() - ".java".length()))
          .collect(Collectors.toList());
    }
  }

  /** The lines of README's example stand here too, so that they are compiled and run. */
  private static void example(String readme) throws IOException {
    CiteLists x = new CiteLists();
    int book = x.entry(1);
    x.field(book, 0, 'L' | 'i' << 8);
    x.field(book, 1, 'M' | 'a' << 8 | 'p' << 16);
    x.field(book, 2, '8' | '4' << 8);
    int paper = x.entry(2);
    x.cross(paper, book);
    x.cite(paper);
    x.cite(book);
    x.style(1, 2);
    int rows = x.run();
    StringBuilder list = new StringBuilder();
    for (int row = -1; row < rows; row++) {
      int length = x.print(row);
      for (int i = 0; i < length; i++) {
        list.append((char) x.at(i));
      }
      list.append('\n');
    }
    check.due("README has the list", true, readme.contains("```text\n" + list + "```\n"));
    String here = Files.readString(TESTS.resolve("ReadmeTest.java"));
    for (String line : block(readme, "```java\n").split("\n")) {
      String code = line.replaceFirst("//.*", "").strip();
      check.due("README's line " + code, true, here.contains("  " + code + "\n"));
    }
  }

  private static String block(String readme, String mark) {
    int from = readme.indexOf(mark) + mark.length();
    return readme.substring(from, readme.indexOf("```", from));
  }
}
