import java.io.IOException;
import java.nio.file.Files;
import java.nio.file.Path;
import java.util.ArrayList;
import java.util.LinkedHashMap;
import java.util.List;
import java.util.Map;
import java.util.regex.Matcher;
import java.util.regex.Pattern;

/**
 * The face of the program word by word as ../shared/DOC.md has it: the names of the parameters, the
 * exceptions in their order, the order of the calls, and the headings ahead of them. It is run in
 * the folder of the project.
 */
public final class TwicebookDocumentFaceTest {
  private static final Pattern CALL_TOLD = Pattern.compile("(?m)^    (public [^;]+);");
  private static final Pattern CALL_WRITTEN =
      Pattern.compile("(?m)^  (public [^={;]*?)\\s*\\{|^  // (---- .*)$");
  private static final Pattern HEADING_TOLD =
      Pattern.compile("Ahead of the calls? ([^.]*?) the interface says: (---- [^.]*)\\.");
  private static final Checks CHECKS = new Checks();

  public static void main(String[] args) throws IOException {
    String document = Files.readString(Path.of("../shared/DOC.md"));
    String program = Files.readString(Path.of("src/main/java/Twicebook.java"));
    calls(document, program);
    headings(document, program);
    CHECKS.end();
  }

  private static void calls(String document, String program) {
    CHECKS.about("the public face");
    List<String> told = new ArrayList<>();
    Matcher call = CALL_TOLD.matcher(document);
    while (call.find()) {
      told.add(call.group(1));
    }
    List<String> written = new ArrayList<>();
    Matcher line = CALL_WRITTEN.matcher(program);
    while (line.find()) {
      if (line.group(1) != null) {
        written.add(line.group(1).replaceAll("\\s+", " "));
      }
    }
    CHECKS.due("how many the document has", told.size(), 27);
    CHECKS.due("the calls", written, told);
  }

  private static void headings(String document, String program) {
    CHECKS.about("what the interface says ahead of its calls");
    Map<String, String> told = new LinkedHashMap<>();
    Matcher heading = HEADING_TOLD.matcher(document);
    while (heading.find()) {
      told.put(heading.group(2), heading.group(1).replace("`", ""));
    }
    Map<String, String> written = new LinkedHashMap<>();
    String latest = "";
    Matcher line = CALL_WRITTEN.matcher(program);
    while (line.find()) {
      if (line.group(2) != null) {
        latest = line.group(2);
      } else if (!latest.isEmpty()) {
        String ahead = line.group(1).substring(0, line.group(1).indexOf('('));
        String name = ahead.substring(ahead.lastIndexOf(' ') + 1);
        written.merge(latest, name, (before, one) -> before + ", " + one);
      }
    }
    CHECKS.due("how many the document has", told.size(), 5);
    CHECKS.due("the headings with their calls", new ArrayList<>(written.entrySet()).toString(),
        new ArrayList<>(told.entrySet()).toString());
  }
}
