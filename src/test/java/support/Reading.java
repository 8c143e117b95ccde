import java.io.IOException;
import java.nio.file.Files;
import java.nio.file.Path;

/**
 * Reads a part of the document from its first word to its last: every few words are told with
 * answers that would be others if these words were broken, and no word may be left out.
 */
final class Reading {
  private static final Path DOCUMENT = Path.of("../shared/DOC.md");

  private final Due due = new Due();
  private final boolean there = Files.exists(DOCUMENT);
  private final String text;
  private int place = 0;
  private String words = "";
  private int answers = 1;

  /** The part from some words of the document on, up to others, which are no more of it. */
  Reading(String from, String to) {
    String all = there ? document() : "";
    int start = all.indexOf(from);
    int end = all.indexOf(to, start + 1);
    boolean found = start >= 0 && end > start;
    text = found ? all.substring(start, end) : "";
    if (there) {
      due.is("the document has '" + from + "' and then '" + to + "'", 1, found ? 1 : 0);
    } else {
      System.out.println("no " + DOCUMENT + ": answers alone are looked at, not its words");
    }
  }

  /** The document's words alone: no headings, no code, one blank between two words. */
  private static String document() {
    StringBuilder all = new StringBuilder();
    try {
      for (String line : Files.readAllLines(DOCUMENT)) {
        if (!line.startsWith("#") && !line.startsWith("```")) {
          all.append(line).append(' ');
        }
      }
    } catch (IOException e) {
      throw new IllegalStateException("can't read " + DOCUMENT, e);
    }
    return all.toString().replaceAll("`[^`]*`", " ").replaceAll("\\s+", " ");
  }

  /** The answers that follow are about these words, the next ones of the document. */
  void says(String next) {
    leave();
    words = next;
    answers = 0;
    int at = text.indexOf(next, place);
    if (there) {
      due.is("the document goes on with '" + next + "'", 1, at >= 0 ? 1 : 0);
    }
    if (at >= 0) {
      nothingIn(text.substring(place, at));
      place = at + next.length();
    }
  }

  void is(String call, long dueAnswer, long got) {
    answers++;
    due.is("'" + words + "': " + call, dueAnswer, got);
  }

  void end() {
    leave();
    nothingIn(text.substring(place));
    due.end();
  }

  private void leave() {
    due.is("'" + words + "' has answers", 1, answers > 0 ? 1 : 0);
  }

  private void nothingIn(String between) {
    boolean empty = between.chars().noneMatch(Character::isLetterOrDigit);
    due.is("no test tells of '" + between + "'", 1, empty ? 1 : 0);
  }
}
