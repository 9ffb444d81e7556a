import java.io.IOException;
import java.lang.reflect.InvocationTargetException;
import java.lang.reflect.Method;
import java.lang.reflect.Modifier;
import java.nio.file.Files;
import java.nio.file.Path;
import java.util.ArrayList;
import java.util.Arrays;
import java.util.List;
import java.util.Set;
import java.util.TreeSet;
import java.util.regex.Matcher;
import java.util.regex.Pattern;
import java.util.stream.Stream;

/**
 * That README.md is right: its example is played call by call, and its table of the calls and its
 * list of the tests are compared with what there is. It is run in the folder of the project.
 */
public final class TwicebookReadmeTest {
  private static final Pattern PLAYED =
      Pattern.compile("book\\.(\\w+)\\((.*)\\); +// ([^:\\s]+)(: .*)?");
  private static final Pattern ROW =
      Pattern.compile("(?m)^\\| `(\\w+)\\((.*?)\\)` \\| [^|]+\\| *([^|]*?) *\\|$");
  private static final Checks CHECKS = new Checks();

  public static void main(String[] args) throws IOException, ReflectiveOperationException {
    String page = Files.readString(Path.of("README.md"));
    example(page);
    table(page);
    tests(page);
    CHECKS.end();
  }

  private static void example(String page) throws ReflectiveOperationException {
    CHECKS.about("the example of README.md");
    int begin = page.indexOf("```java\n");
    CHECKS.due("whether it is there", begin >= 0, true);
    String[] lines = page.substring(begin, page.indexOf("\n```\n", begin)).split("\n");
    CHECKS.due("its first line", lines[1], "Twicebook book = new Twicebook();");
    Twicebook book = new Twicebook();
    for (int number = 2; number < lines.length; number++) {
      Matcher line = PLAYED.matcher(lines[number]);
      boolean whole = line.matches();
      CHECKS.due("whether \"" + lines[number] + "\" can be played", whole, true);
      if (whole) {
        CHECKS.due(lines[number], line.group(3), play(book, line.group(1), line.group(2)));
      }
    }
  }

  private static String play(Twicebook book, String name, String told)
      throws ReflectiveOperationException {
    for (Method call : face()) {
      if (call.getName().equals(name)) {
        return outcome(book, call, told.isEmpty() ? new String[0] : told.split(", "));
      }
    }
    return "no such call";
  }

  private static String outcome(Twicebook book, Method call, String[] told)
      throws ReflectiveOperationException {
    if (told.length != call.getParameterCount()) {
      return "takes " + call.getParameterCount();
    }
    Object[] values = new Object[told.length];
    for (int number = 0; number < told.length; number++) {
      boolean sign = call.getParameterTypes()[number] == char.class;
      values[number] = sign ? (Object) told[number].charAt(1) : Integer.valueOf(told[number]);
    }
    try {
      Object answer = call.invoke(book, values);
      return answer instanceof Character ? "'" + answer + "'" : String.valueOf(answer);
    } catch (InvocationTargetException e) {
      return "throws." + e.getCause().getClass().getSimpleName();
    }
  }

  private static List<Method> face() {
    return Arrays.stream(Twicebook.class.getDeclaredMethods())
        .filter(method -> Modifier.isPublic(method.getModifiers()))
        .toList();
  }

  private static void table(String page) {
    CHECKS.about("the table of README.md");
    Set<String> due = new TreeSet<>();
    for (Method call : face()) {
      List<String> thrown = new ArrayList<>();
      for (Class<?> one : call.getExceptionTypes()) {
        thrown.add("`" + one.getSimpleName() + "`");
      }
      due.add(call.getName() + " of " + call.getParameterCount() + " throws "
          + String.join(", ", thrown));
    }
    Set<String> rows = new TreeSet<>();
    Matcher row = ROW.matcher(page);
    while (row.find()) {
      int count = row.group(2).isEmpty() ? 0 : row.group(2).split(", ").length;
      rows.add(row.group(1) + " of " + count + " throws " + row.group(3));
    }
    CHECKS.due("the calls", rows, due);
    CHECKS.due("the constructor", page.contains("\n| `new Twicebook()` | "), true);
  }

  private static void tests(String page) throws IOException {
    CHECKS.about("the tests in README.md");
    Set<String> listed = new TreeSet<>();
    Matcher item = Pattern.compile("(?m)^- `(\\w+Test)`: ").matcher(page);
    while (item.find()) {
      listed.add(item.group(1));
    }
    Set<String> there = new TreeSet<>();
    try (Stream<Path> files = Files.list(Path.of("src/test/java"))) {
      files.map(file -> file.getFileName().toString())
          .filter(name -> name.endsWith("Test.java"))
          .forEach(name -> there.add(name.substring(0, name.length() - ".java".length())));
    }
    CHECKS.due("the list", listed, there);
    CHECKS.due("how they are run", page.contains("```sh\n.ci/run\n```"), true);
    CHECKS.due("whether .ci/run can be run", Files.isExecutable(Path.of(".ci/run")), true);
  }
}
