import java.io.File;
import java.io.IOException;
import java.lang.reflect.Method;
import java.lang.reflect.Modifier;
import java.nio.charset.StandardCharsets;
import java.nio.file.Files;
import java.nio.file.Path;

/** README.md's example runs as it stands there, and the page names each call and each test. */
public final class ReadmeTest {
  private static final String TESTS = "src/test/java";

  private static Segueworks example() {
    // README.md's example, from here
    Segueworks works = new Segueworks();
    int reel = works.reel();
    works.wave(reel, 40, 10, 1500);
    int piece = works.cut(reel, 0, 40);
    int louder = works.gain(piece, 150);
    works.add(works.splice(piece, louder, 8), 5);
    int lacquer = works.engrave(0, 99999);
    if (works.failedAt(lacquer) < 0) {
      works.press(works.stamper(works.mother(works.father(lacquer))), 100);
    }
    // to here
    return works;
  }

  private static String between(String text, String from, String to) {
    int begin = text.indexOf(from);
    int end = begin < 0 ? -1 : text.indexOf(to, begin + from.length());
    return end < 0 ? "nothing from " + from : text.substring(begin + from.length(), end);
  }

  private static String read(String path) throws IOException {
    return new String(Files.readAllBytes(Path.of(path)), StandardCharsets.UTF_8);
  }

  private static void exampleStands(Due due, String page) throws IOException {
    String own = read(TESTS + "/ReadmeTest.java");
    // A new line ends each, so that these words themselves are not what is found.
    String run = between(own, "example, from here\n", "    // to here\n").replace("\n    ", "\n");
    due.is("the page's example", run.substring(4), () -> between(page, "```java\n", "```"));
    Segueworks works = example();
    due.is("the example's program", 5 + 40 + 40 - 8, () -> works.programLength());
    due.is("the example's cut", -1, () -> works.failedAt(0));
    due.is("the example's discs", 1.0f, () -> works.goodShare());
  }

  public static void main(String[] args) throws IOException {
    Due due = new Due();
    String page = read("README.md");
    exampleStands(due, page);
    for (Method method : Segueworks.class.getDeclaredMethods()) {
      if (!Modifier.isPublic(method.getModifiers())) continue;
      String name = method.getName();
      due.is("the page names " + name, true, () -> page.contains("`" + name + "`"));
    }
    for (String file : new File(TESTS).list()) {
      if (!file.endsWith("Test.java")) continue;
      String name = file.replace(".java", "");
      due.is("the page names " + name, true, () -> page.contains("| " + name + " |"));
    }
    due.end();
  }
}
