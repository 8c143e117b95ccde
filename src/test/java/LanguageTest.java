import java.io.IOException;
import java.lang.reflect.Constructor;
import java.lang.reflect.Field;
import java.lang.reflect.Method;
import java.lang.reflect.Modifier;
import java.nio.file.Files;
import java.nio.file.Path;
import java.util.ArrayList;
import java.util.Arrays;
import java.util.Collections;
import java.util.List;
import java.util.regex.Matcher;
import java.util.regex.Pattern;

/** The public face as the document has it, and the rules of LANGUAGE.md that can be looked up. */
public final class LanguageTest {
  private static final Path SOURCE = Path.of("src/main/java/RoomToSpare.java");
  private static final String[] FACE = {
      "int air(int)", "int airs(int)", "int bestKind(int, int)", "int buy(int)",
      "int candles(int)", "int clear()", "int count(int)", "int dark()", "int dents(int, int)",
      "int house(int, int)", "int houseThen(int, int, int)", "int image()", "int judge()",
      "int keeps(int)", "int letter(int)", "int lost(int)", "int lots(int, int, int)",
      "int move(int)", "int next(int)", "int on()", "int peoples(int, int)", "int row(int)",
      "int run(int)", "int spare(int)", "int start(int, int)", "int still()", "int then(int, int)",
      "int town()", "int turn(int, int, int)", "int two(int, int, int)", "int visits(int)",
      "int weeks(int)", "int whatIs(int, int)", "long guest(int, int, int, int)",
      "long mean(int)"};
  private static final Due DUE = new Due();

  public static void main(String[] args) throws IOException {
    face();
    hidden();
    words(withoutComments(Files.readString(SOURCE)));
    methods(Files.readAllLines(SOURCE));
    DUE.end();
  }

  private static void face() {
    List<String> found = new ArrayList<>();
    for (Method m : RoomToSpare.class.getDeclaredMethods()) {
      if (!Modifier.isPrivate(m.getModifiers())) {
        String types = Arrays.toString(
            Arrays.stream(m.getParameterTypes()).map(Class::getName).toArray());
        found.add(m.getReturnType() + " " + m.getName() + types.replace('[', '(').replace(']', ')'));
      }
    }
    Collections.sort(found);
    DUE.is("as many methods", FACE.length, found.size());
    for (int i = 0; i < Math.min(FACE.length, found.size()); i++) {
      DUE.is(FACE[i] + " is " + found.get(i), 1, FACE[i].equals(found.get(i)) ? 1 : 0);
    }
    int modifiers = RoomToSpare.class.getModifiers();
    DUE.is("public final", Modifier.PUBLIC | Modifier.FINAL, modifiers);
    Constructor<?>[] makers = RoomToSpare.class.getDeclaredConstructors();
    DUE.is("one constructor", 1, makers.length);
    DUE.is("public", Modifier.PUBLIC, makers[0].getModifiers());
    DUE.is("of nothing", 0, makers[0].getParameterCount());
  }

  private static void hidden() {
    List<String> face = new ArrayList<>();
    for (String of : FACE) {
      face.add(of.substring(of.indexOf(' ') + 1, of.indexOf('(')));
    }
    for (Field f : RoomToSpare.class.getDeclaredFields()) {
      DUE.is(f.getName() + " is private", 1, Modifier.isPrivate(f.getModifiers()) ? 1 : 0);
    }
    List<Class<?>> all = new ArrayList<>(List.of(RoomToSpare.class.getDeclaredClasses()));
    DUE.is("some twelve classes", 1, all.size() < 12 ? 1 : 0);
    for (Class<?> inside : all) {
      DUE.is(inside + " is static", 1, Modifier.isStatic(inside.getModifiers()) ? 1 : 0);
      for (Method m : inside.getDeclaredMethods()) {
        DUE.is(m + " has its own name", 0, face.contains(m.getName()) ? 1 : 0);
      }
    }
    all.add(RoomToSpare.class);
    for (Class<?> of : all) {
      long fields = Arrays.stream(of.getDeclaredFields())
          .filter(f -> !Modifier.isStatic(f.getModifiers())).count();
      DUE.is(of + " has some twenty fields", 1, fields <= 20 ? 1 : 0);
      for (Method m : of.getDeclaredMethods()) {
        boolean hides = Modifier.isPrivate(m.getModifiers()) && face.contains(m.getName());
        DUE.is(m + " is not a public name", 0, hides ? 1 : 0);
        DUE.is(m + " has seven parameters at most", 1, m.getParameterCount() <= 7 ? 1 : 0);
      }
      for (Field f : of.getDeclaredFields()) {
        int modifiers = f.getModifiers();
        boolean free = Modifier.isStatic(modifiers) && !Modifier.isFinal(modifiers);
        DUE.is(f + " is final if it is static", 0, free ? 1 : 0);
      }
    }
  }

  private static String withoutComments(String source) {
    return source.replaceAll("(?s)/\\*.*?\\*/", "").replaceAll("//[^\n]*", "");
  }

  private static void words(String source) {
    String[] none = {"\\bpackage\\b", "\\bthrows?\\b", "\\btry\\b", "\\bcatch\\b", "\\bassert\\b",
        "\\bsynchronized\\b", "Exact\\b", "->", "::", "\\bprotected\\b", "\\bThread\\b", "\\bRandom\\b",
        "\\bequals\\(Object", "\\bhashCode\\b", "import (?!java\\.util\\.(ArrayList|Arrays|Iterator|List);)"};
    for (String word : none) {
      Matcher m = Pattern.compile(word).matcher(source);
      DUE.is("no " + word + " in the source", 0, m.find() ? 1 : 0);
    }
    int above = (int) source.chars().filter(c -> c > 126).count();
    DUE.is("signs above 126", 0, above);
  }

  /** A method's head stands two or four blanks in and ends with an opening brace. */
  private static void methods(List<String> lines) {
    int methods = 0;
    for (int i = 0; i < lines.size(); i++) {
      Matcher head = Pattern.compile("( {2}| {4})\\S.*\\) \\{").matcher(lines.get(i));
      if (head.matches()) {
        int end = i;
        while (!lines.get(end).equals(head.group(1) + "}")) {
          end++;
        }
        DUE.is(lines.get(i).trim() + " is short", 1, end - i < 60 ? 1 : 0);
        methods++;
      }
    }
    DUE.is("methods were found", 1, methods > 60 ? 1 : 0);
  }
}
