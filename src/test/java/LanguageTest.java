import java.io.IOException;
import java.nio.file.Files;
import java.nio.file.Path;
import java.util.Set;
import java.util.TreeSet;
import java.util.regex.Matcher;
import java.util.regex.Pattern;

/** What LANGUAGE.md rules out and can be seen in the text of src/main/java/OwnWays.java (run where that path holds). */
public final class LanguageTest {
  private static final Check CHECK = new Check("LanguageTest");
  private static final Path SOURCE = Path.of("src/main/java/OwnWays.java");
  // Rules 1, 2, 4, 5, 6 and 13: none of these words or signs stands in the program.
  private static final String[] RULED_OUT = {"::", "\\bpackage\\b", "\\bfinally\\b", "\\bsynchronized\\b", "\\bassert\\b",
    "\\bhashCode\\b", "\\b\\w+Exact\\b", "\\bThread\\b", "\\bRandom\\b", "\\bThrowable\\b", "\\bError\\b", "\\bgetMessage\\b",
    "\\bSystem\\.(?!arraycopy\\b)", "\\bArrays\\.(?!(copyOf|copyOfRange|fill)\\b)", "\\b(String|Character)\\.\\w",
    "\\bMath\\.(sqrt|pow|random|floor|ceil|round|sin|cos|log|exp)\\b", "\\bjava\\.(?!(util|lang)\\.)", "\\bjavax\\.",
    "\\bjava\\.(util|lang)\\.[a-z]", "catch \\((final )?(Exception|RuntimeException|ArrayIndexOutOfBoundsException"
    + "|StringIndexOutOfBoundsException|IndexOutOfBoundsException|NullPointerException|ArithmeticException"
    + "|ClassCastException|NegativeArraySizeException|ArrayStoreException|StackOverflowError)\\b", "\\btry \\(",
    "\\bstatic \\{"};
  private static final Pattern FROM_UTIL = Pattern.compile("\\bjava\\.util\\.(\\w+)");
  private static final Set<String> OF_UTIL = Set.of("ArrayList", "List", "Iterator", "Arrays", "NoSuchElementException");
  private static final Pattern COMMENT_OR_TEXT = Pattern.compile(
      "(?s)(/\\*.*?\\*/|//[^\n]*)|\"(?:\\\\.|[^\"\\\\\n])*\"|'(?:\\\\.|[^'\\\\\n])+'");
  // What stands ahead of a method's "{": a type or another word, its name, its parameters, what it throws.
  private static final Pattern HEAD = Pattern.compile("([\\w>\\]]+)\\s+(\\w+)\\s*\\([^()]*\\)(\\s*throws [\\w,\\s]+)?\\s*$");
  private static final Set<String> NO_METHODS = Set.of("if", "for", "while", "switch", "catch", "try");

  public static void main(String[] args) throws IOException {
    String text = Files.readString(SOURCE);
    String code = without(text, true);
    for (String ruledOut : RULED_OUT) {
      Matcher m = Pattern.compile(ruledOut).matcher(code);
      boolean isFound = m.find();
      CHECK.holds(ruledOut + " is ruled out" + (isFound ? ": " + m.group() : ""), !isFound);
    }
    library(code);
    noLambda(code.split("\n"));
    noThrowInItsOwnTry(code);
    CHECK.holds("signs 1 to 127 alone", without(text, false).chars().allMatch(sign -> sign >= 1 && sign <= 127));
    methodLengths(code);
    CHECK.end();
  }

  /** The program with its lines, but without its comments, and perhaps with nothing inside its texts and signs. */
  private static String without(String text, boolean textsToo) {
    return COMMENT_OR_TEXT.matcher(text).replaceAll(m -> m.group(1) != null ? m.group().replaceAll("[^\n]", "")
        : Matcher.quoteReplacement(textsToo ? "\"\"" : m.group()));
  }

  private static void library(String code) {
    Matcher m = FROM_UTIL.matcher(code);
    while (m.find()) {
      CHECK.holds(m.group(), OF_UTIL.contains(m.group(1)));
    }
  }

  /** An arrow stands in the cases of a switch alone. */
  private static void noLambda(String[] lines) {
    for (String line : lines) {
      CHECK.holds("no lambda: " + line, !line.contains("->") || line.matches("\\s*(case\\b.*|default )->.*"));
    }
  }

  /** A block of try holds no throw. */
  private static void noThrowInItsOwnTry(String code) {
    Matcher m = Pattern.compile("\\btry \\{([^}]*)\\}").matcher(code);
    while (m.find()) {
      CHECK.holds("no throw in its own try: " + m.group(), !m.group(1).contains("throw "));
    }
  }

  private static void methodLengths(String code) {
    Set<String> found = new TreeSet<>();
    int ahead = 0;
    for (int i = 0; i < code.length(); i++) {
      char sign = code.charAt(i);
      String name = sign == '{' ? methodOf(code.substring(ahead, i)) : null;
      if (name != null) {
        long lines = code.substring(i, endOf(code, i)).chars().filter(c -> c == '\n').count();
        CHECK.holds("some sixty lines: " + name, lines < 70);
        found.add(name);
      }
      ahead = sign == '{' || sign == '}' || sign == ';' ? i + 1 : ahead;
    }
    for (String call : FaceTest.FACE) {
      String name = call.substring(0, call.indexOf(' '));
      CHECK.holds(name + " is found: " + found, found.contains(name));
    }
  }

  /** The name of the method whose head this is; null, if it is another thing's. */
  private static String methodOf(String head) {
    Matcher m = HEAD.matcher(head);
    boolean isMethod = m.find() && !NO_METHODS.contains(m.group(2)) && !Set.of("new", "record").contains(m.group(1));
    return isMethod ? m.group(2) : null;
  }

  /** The place of the "}" that ends what begins with the "{" at that place. */
  private static int endOf(String code, int start) {
    int open = 0;
    for (int i = start; i < code.length(); i++) {
      open += code.charAt(i) == '{' ? 1 : code.charAt(i) == '}' ? -1 : 0;
      if (open == 0) {
        return i;
      }
    }
    return code.length();
  }
}
