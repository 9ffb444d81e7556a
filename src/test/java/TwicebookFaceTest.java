import java.io.IOException;
import java.lang.reflect.Constructor;
import java.lang.reflect.Field;
import java.lang.reflect.Method;
import java.lang.reflect.Modifier;
import java.nio.file.Files;
import java.nio.file.Path;
import java.util.Arrays;
import java.util.HashSet;
import java.util.List;
import java.util.Set;
import java.util.TreeSet;

/**
 * The face as the document has it, and those rules of LANGUAGE.md that can be read off the program
 * without running it. It is run in the folder of the project.
 */
public final class TwicebookFaceTest {
  private static final String ILLEGAL = "java.lang.IllegalArgumentException";
  private static final String STATE = "java.lang.IllegalStateException";
  private static final String BOUNDS = "java.lang.IndexOutOfBoundsException";
  private static final String ABSENT = "java.util.NoSuchElementException";
  private static final List<String> FACE = List.of(
      "int put(int,int) " + ILLEGAL,
      "boolean putIfAbsent(int,int) " + ILLEGAL,
      "int get(int) " + ABSENT,
      "int getOr(int,int)",
      "boolean replace(int,int)",
      "boolean replaceIf(int,int,int)",
      "int look(int) " + ABSENT,
      "boolean has(int)",
      "int remove(int) " + ABSENT,
      "int size()",
      "int limit(int) " + ILLEGAL,
      "char way(char) " + ILLEGAL,
      "int keyAt(char,int) " + ILLEGAL + " " + BOUNDS,
      "int placeOf(char,int) " + ILLEGAL + " " + ABSENT,
      "int setAt(char,int,int) " + ILLEGAL + " " + BOUNDS,
      "int removeAt(char,int) " + ILLEGAL + " " + BOUNDS,
      "int thin(char,int) " + ILLEGAL,
      "int walk(char) " + ILLEGAL,
      "int step() " + STATE + " " + ABSENT,
      "int cut() " + STATE,
      "int moves()",
      "int move(int) " + BOUNDS,
      "int crossings()",
      "int undo() " + ABSENT,
      "boolean isTrue()",
      "long checksum()");
  private static final List<String> RULED_OUT = List.of(
      "->", "::", "finally", "synchronized", "assert ", "static {", "catch", "getMessage",
      "Exact(", "System.out", "java.io", "java.time", "Random", "currentTime", "nanoTime",
      "Thread", "hashCode", "equals(", "toString", "extends Exception", "@SuppressWarnings");
  private static final Checks CHECKS = new Checks();

  public static void main(String[] args) throws IOException {
    face();
    nothingElseToBeSeen();
    namesOfPrivateMethods();
    sizes();
    words(Files.readString(Path.of("src/main/java/Twicebook.java")));
    CHECKS.end();
  }

  private static String told(Method method) {
    StringBuilder text = new StringBuilder();
    text.append(method.getReturnType()).append(' ').append(method.getName()).append('(');
    for (int number = 0; number < method.getParameterCount(); number++) {
      text.append(number == 0 ? "" : ",").append(method.getParameterTypes()[number]);
    }
    text.append(')');
    for (Class<?> thrown : method.getExceptionTypes()) {
      text.append(' ').append(thrown.getName());
    }
    return text.toString();
  }

  private static void face() {
    CHECKS.about("the face");
    Set<String> seen = new TreeSet<>();
    for (Method method : Twicebook.class.getDeclaredMethods()) {
      if (Modifier.isPublic(method.getModifiers())) {
        seen.add(told(method));
      }
    }
    CHECKS.due("the public methods", seen, new TreeSet<>(FACE));
    CHECKS.due("the class", Modifier.toString(Twicebook.class.getModifiers()), "public final");
    CHECKS.due("its package", Twicebook.class.getPackageName(), "");
    Constructor<?>[] makers = Twicebook.class.getDeclaredConstructors();
    CHECKS.due("the constructors", Arrays.toString(makers), "[public Twicebook()]");
  }

  private static void nothingElseToBeSeen() {
    CHECKS.about("rules 1 and 5, what can be seen");
    for (Method method : Twicebook.class.getDeclaredMethods()) {
      boolean hidden = Modifier.isPrivate(method.getModifiers()) || method.isSynthetic();
      CHECKS.due(method.getName(), hidden || Modifier.isPublic(method.getModifiers()), true);
    }
    for (Field field : Twicebook.class.getDeclaredFields()) {
      int kind = field.getModifiers();
      CHECKS.due(field.getName(), Modifier.isPrivate(kind) && Modifier.isFinal(kind), true);
    }
    for (Class<?> inside : Twicebook.class.getDeclaredClasses()) {
      String kind = Modifier.toString(inside.getModifiers());
      CHECKS.due(inside.getName(), kind, "private static final");
      for (Field field : inside.getDeclaredFields()) {
        CHECKS.due(field.getName(), Modifier.isStatic(field.getModifiers()), false);
      }
    }
  }

  private static void namesOfPrivateMethods() {
    CHECKS.about("rule 1, no other method bears the name of a public one");
    Set<String> names = new HashSet<>();
    for (String method : FACE) {
      names.add(method.substring(method.indexOf(' ') + 1, method.indexOf('(')));
    }
    CHECKS.due("the names of the face", names.size(), FACE.size());
    for (Method method : Twicebook.class.getDeclaredMethods()) {
      if (!Modifier.isPublic(method.getModifiers())) {
        CHECKS.due(method.getName(), names.contains(method.getName()), false);
      }
    }
    for (Class<?> inside : Twicebook.class.getDeclaredClasses()) {
      for (Method method : inside.getDeclaredMethods()) {
        CHECKS.due(method.getName(), names.contains(method.getName()), false);
      }
    }
  }

  private static void sizes() {
    CHECKS.about("rule 11, sizes");
    Class<?>[] inside = Twicebook.class.getDeclaredClasses();
    CHECKS.due("at most eleven classes inside", inside.length <= 11, true);
    for (Class<?> one : inside) {
      CHECKS.due("the fields of " + one, one.getDeclaredFields().length <= 20, true);
      for (Method method : one.getDeclaredMethods()) {
        CHECKS.due(method.getName() + " takes seven", method.getParameterCount() <= 7, true);
      }
    }
  }

  private static void words(String program) {
    CHECKS.about("rules 2, 4, 5, 6 and 13, the words of the program");
    for (String word : RULED_OUT) {
      CHECKS.due("\"" + word + "\" stands there", program.contains(word), false);
    }
    int imports = program.split("\\bimport ", -1).length - 1;
    CHECKS.due("imports", imports, 1);
    CHECKS.due("the one", program.contains("import java.util.NoSuchElementException;"), true);
    CHECKS.due("only signs 1 to 127", program.chars().allMatch(sign -> sign < 128), true);
  }
}
