import java.io.IOException;
import java.lang.reflect.Method;
import java.nio.file.Files;
import java.nio.file.Path;
import java.util.Map;
import java.util.TreeMap;

/**
 * Each test of a boundary case names the sentences that it is about: they stand in the document so, and together they
 * are all that the document says under "Terms" and under each promise.
 */
public final class EdgesCoverTest {
  private static final Class<?>[] TESTS = {
    EdgesOfTellingTest.class, EdgesOfLandTest.class, EdgesOfThoughtTest.class, EdgesOfSeatsTest.class,
    EdgesOfOddsTest.class, EdgesOfImageTest.class
  };
  private static final int PROMISES = 39;

  /** A part of the document in one line, and which of its characters a test has quoted. */
  private static final class Part {
    final String text;
    final boolean[] quoted;

    Part(String text) {
      this.text = text.replaceAll("\\s+", " ").trim();
      quoted = new boolean[this.text.length()];
    }

    boolean quotes(String words) {
      int from = text.indexOf(words);
      for (int at = from; at >= 0; at = text.indexOf(words, at + 1)) {
        java.util.Arrays.fill(quoted, at, at + words.length(), true);
      }
      return from >= 0;
    }

    /** What no test quotes, with its letters and digits; signs alone are nothing. */
    String left() {
      StringBuilder b = new StringBuilder();
      for (int i = 0; i < quoted.length; i++) {
        b.append(quoted[i] ? '|' : text.charAt(i));
      }
      String left = b.toString().replaceAll("\\|+", "|");
      return left.matches("[^A-Za-z0-9]*") ? "" : left;
    }
  }

  public static void main(String[] args) throws IOException {
    String shared = System.getProperty("shared", "../shared");
    Path document = Path.of(shared, "DOC.md");
    if (!Files.isReadable(document)) {
      System.out.println("EdgesCoverTest: no document at " + document + ", nothing to compare with");
      return;
    }
    cover(Files.readString(document));
    Due.end("EdgesCoverTest");
  }

  private static void cover(String document) {
    Part terms = new Part(between(document, "## Terms\n", "## Promise 1:").replace("```text", "").replace("```", "")
        .replace("==== II.", ""));
    Map<Integer, Part> promises = new TreeMap<>();
    for (int n = 1; n <= PROMISES; n++) {
      String section = between(document, "## Promise " + n + ":", "\n## ");
      promises.put(n, new Part(section.substring(section.indexOf("`: ") + 3)));
    }
    for (Class<?> tests : TESTS) {
      for (Method test : Edges.of(tests)) {
        quote(test, promises, terms);
      }
    }
    for (Map.Entry<Integer, Part> promise : promises.entrySet()) {
      Due.is("promise " + promise.getKey() + " has no test of \"" + promise.getValue().left() + "\"",
          promise.getValue().left().length(), 0);
    }
    Due.is("the terms have no test of \"" + terms.left() + "\"", terms.left().length(), 0);
  }

  private static void quote(Method test, Map<Integer, Part> promises, Part terms) {
    Edge edge = test.getAnnotation(Edge.class);
    Due.isTrue("a promise of " + test.getName(), promises.containsKey(edge.promise()));
    Due.isTrue(test.getName() + " begins with its promise",
        test.getName().startsWith(String.format("p%02d_", edge.promise())));
    for (String words : edge.says()) {
      boolean there = promises.get(edge.promise()).quotes(words);
      boolean inTerms = terms.quotes(words);
      Due.isTrue(test.getName() + " quotes what the document does not say: " + words, there || inTerms);
    }
  }

  private static String between(String text, String from, String to) {
    int start = text.indexOf(from);
    Due.isTrue("the document has " + from.trim(), start >= 0);
    int end = text.indexOf(to, start + from.length());
    return text.substring(start + from.length(), end < 0 ? text.length() : end);
  }
}
