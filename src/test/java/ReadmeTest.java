import java.io.IOException;
import java.lang.reflect.Method;
import java.lang.reflect.Modifier;
import java.nio.file.Files;
import java.nio.file.Path;
import java.util.ArrayList;
import java.util.HashMap;
import java.util.List;
import java.util.Map;
import java.util.TreeSet;
import java.util.regex.Matcher;
import java.util.regex.Pattern;
import java.util.stream.Stream;

/** What README.md says of the class and its tests: its example, its calls, its tests. */
public final class ReadmeTest {
  private static final Path README = Path.of("README.md");
  private static final Path TESTS = Path.of("src/test/java");
  private static final String NEW_OBJECT = "RoomToSpare x = new RoomToSpare();";
  private static final Pattern TEXT =
      Pattern.compile("for \\(char c : \"(.*)\"\\.toCharArray\\(\\)\\) \\{.*");
  private static final Pattern CALL = Pattern.compile("x\\.(\\w+)\\((.*)\\); +// (-?\\d+): .*");
  private static final Due DUE = new Due();

  private final Map<String, Method> calls = new HashMap<>();
  private RoomToSpare x = new RoomToSpare();
  private int asked = 0;

  private ReadmeTest() {
    for (Method m : RoomToSpare.class.getDeclaredMethods()) {
      if (Modifier.isPublic(m.getModifiers())) {
        calls.put(m.getName(), m);
      }
    }
  }

  public static void main(String[] args) throws IOException, ReflectiveOperationException {
    ReadmeTest test = new ReadmeTest();
    for (String line : example()) {
      test.play(line);
    }
    DUE.is("the example asks", 1, test.asked > 10 ? 1 : 0);
    String table = part("### What can be called", "### What is refused");
    for (String call : test.calls.keySet()) {
      named(table, call);
    }
    String tests = part("## How to run the tests", null);
    for (String name : testNames()) {
      named(tests, name);
    }
    named(tests, "../shared/tests");
    DUE.end();
  }

  /** A line of the example happens; one of another form is a wrong answer. */
  private void play(String line) throws ReflectiveOperationException {
    Matcher text = TEXT.matcher(line);
    Matcher call = CALL.matcher(line);
    if (line.equals(NEW_OBJECT)) {
      x = new RoomToSpare();
    } else if (text.matches()) {
      for (char c : text.group(1).toCharArray()) {
        x.letter(c);
      }
    } else if (call.matches() && calls.containsKey(call.group(1))) {
      asked++;
      DUE.is(line, Long.parseLong(call.group(3)), answer(call.group(1), call.group(2)));
    } else {
      boolean restOfText = line.equals("x.letter(c);") || line.equals("}");
      DUE.is("the example's line '" + line + "' is understood", 1, restOfText ? 1 : 0);
    }
  }

  private long answer(String name, String told) throws ReflectiveOperationException {
    List<Object> numbers = new ArrayList<>();
    for (String number : told.split(", ")) {
      if (!number.isEmpty()) {
        numbers.add(Integer.valueOf(number));
      }
    }
    return ((Number) calls.get(name).invoke(x, numbers.toArray())).longValue();
  }

  private static List<String> example() throws IOException {
    return part("```java\n", "```\n").lines().map(String::trim).filter(l -> !l.isEmpty()).toList();
  }

  /** What stands in README.md behind some words, up to others or to its end. */
  private static String part(String from, String to) throws IOException {
    String all = Files.readString(README);
    int start = all.indexOf(from);
    int begin = start < 0 ? all.length() : start + from.length();
    int end = to == null ? all.length() : all.indexOf(to, begin);
    DUE.is("README.md has '" + from.trim() + "'", 1, start >= 0 && end > begin ? 1 : 0);
    return end > begin ? all.substring(begin, end) : "";
  }

  private static TreeSet<String> testNames() throws IOException {
    TreeSet<String> names = new TreeSet<>();
    try (Stream<Path> files = Files.list(TESTS)) {
      files.map(f -> f.getFileName().toString()).filter(f -> f.endsWith("Test.java"))
          .forEach(f -> names.add(f.substring(0, f.length() - ".java".length())));
    }
    DUE.is("tests were found", 1, names.size() > 10 ? 1 : 0);
    return names;
  }

  private static void named(String text, String name) {
    DUE.is("README.md names " + name, 1, text.contains("`" + name + "`") ? 1 : 0);
  }
}
