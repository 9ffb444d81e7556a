import java.io.IOException;
import java.lang.reflect.InvocationTargetException;
import java.lang.reflect.Method;
import java.nio.file.Files;
import java.nio.file.Path;
import java.util.ArrayList;
import java.util.Arrays;
import java.util.Comparator;
import java.util.List;

/**
 * Runs a test for each sentence of the document that names a boundary case. A test's name begins
 * with "terms", or with "promise" and the promise's number, and Says holds the words that it is
 * about. That no words are left without a test is looked for here too.
 */
public final class TwicebookBoundsTest {
  private static final List<Class<?>> GROUPS = List.of(
      TermsBounds.class, ChangesBounds.class, EntriesBounds.class, TakingOutBounds.class,
      OrdersBounds.class, WalksBounds.class, PastBounds.class, CallsBounds.class);
  private static final Path DOCUMENT = Path.of("../shared/DOC.md");
  private static final Checks CHECKS = new Checks();

  public static void main(String[] args) throws IOException, IllegalAccessException {
    List<Method> tests = tests();
    for (Method test : tests) {
      run(test);
    }
    if (Files.exists(DOCUMENT)) {
      compareWithDocument(tests);
    } else {
      System.out.println(DOCUMENT + " is not there: the words of the tests are not compared");
    }
    System.out.println(tests.size() + " tests of boundary cases");
    CHECKS.end();
  }

  private static void compareWithDocument(List<Method> tests) throws IOException {
    DocumentWords words = new DocumentWords(Files.readString(DOCUMENT));
    for (Method test : tests) {
      CHECKS.about(test.getName());
      for (String said : test.getAnnotation(Says.class).value()) {
        CHECKS.due("\"" + said + "\" in its section", words.cover(section(test), said), true);
      }
    }
    CHECKS.about("the document");
    CHECKS.due("sentences that no test is about", words.uncovered(), List.of());
  }

  private static List<Method> tests() {
    List<Method> tests = new ArrayList<>();
    for (Class<?> group : GROUPS) {
      Arrays.stream(group.getDeclaredMethods())
          .filter(method -> method.isAnnotationPresent(Says.class))
          .sorted(Comparator.comparing(Method::getName))
          .forEach(tests::add);
    }
    return tests;
  }

  private static void run(Method test) throws IllegalAccessException {
    CHECKS.about(test.getName());
    int before = CHECKS.counted();
    try {
      test.invoke(null, CHECKS);
    } catch (InvocationTargetException e) {
      CHECKS.due("the test", "throws." + e.getCause(), "its end");
    }
    CHECKS.due("whether it looked at an answer", CHECKS.counted() > before, true);
  }

  /** "Terms", or "Promise" and its number as the document's headings have it. */
  private static String section(Method test) {
    String name = test.getName();
    if (name.startsWith("terms")) {
      return "Terms";
    }
    int behind = "promise".length();
    return "Promise " + Integer.parseInt(name.substring(behind, behind + 2));
  }
}
