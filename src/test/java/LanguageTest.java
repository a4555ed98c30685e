import java.io.IOException;
import java.nio.file.Files;
import java.nio.file.Path;
import java.util.regex.Matcher;
import java.util.regex.Pattern;

/** What LANGUAGE.md rules out and can be seen in the text of src/main/java/OwnWays.java (run where that path holds). */
public final class LanguageTest {
  private static final Check CHECK = new Check("LanguageTest");
  private static final Path SOURCE = Path.of("src/main/java/OwnWays.java");
  // Rules 1, 2, 4, 5, 6, 9 and 13: none of these words or signs stands in the program.
  private static final String[] RULED_OUT = {"::", "\\bpackage\\b", "\\bfinally\\b", "\\bsynchronized\\b", "\\bassert\\b",
    "\\bhashCode\\b", "\\b\\w+Exact\\b", "\\bThread\\b", "\\bRandom\\b", "\\bThrowable\\b", "\\bError\\b", "\\bgetMessage\\b",
    "\\bSystem\\.(?!arraycopy\\b)", "\\bArrays\\.(?!(copyOf|copyOfRange|fill)\\b)", "\\b(String|Character)\\.\\w",
    "\\bMath\\.(sqrt|pow|random|floor|ceil|round|sin|cos|log|exp)\\b", "\\bjava\\.", "\\bjavax\\.",
    "catch \\((final )?(Exception|RuntimeException|ArrayIndexOutOfBoundsException|StringIndexOutOfBoundsException"
    + "|IndexOutOfBoundsException|NullPointerException|ArithmeticException|ClassCastException"
    + "|NegativeArraySizeException|ArrayStoreException|StackOverflowError)\\b", "\\btry \\(",
    "\\bstatic (?!final\\b|class\\b)\\w+(\\[\\])* \\w+ ?[=;]", "\\bstatic \\{", "while \\(true\\)", "for \\(;;\\)"};
  private static final Pattern IMPORT = Pattern.compile("import java\\.util\\.(\\w+);");
  private static final String IMPORTS = "ArrayList List Iterator Arrays NoSuchElementException";

  public static void main(String[] args) throws IOException {
    String text = Files.readString(SOURCE);
    String code = withoutCommentsAndTexts(text);
    imports(code);
    for (String ruledOut : RULED_OUT) {
      Matcher m = Pattern.compile(ruledOut).matcher(IMPORT.matcher(code).replaceAll(""));
      boolean isFound = m.find();
      CHECK.holds(ruledOut + " is ruled out" + (isFound ? ": " + m.group() : ""), !isFound);
    }
    noLambda(code.split("\n"));
    noThrowInItsOwnTry(code);
    CHECK.holds("signs 1 to 127 alone", text.chars().allMatch(sign -> sign >= 1 && sign <= 127));
    methodLengths(text.split("\n"));
    CHECK.end();
  }

  private static String withoutCommentsAndTexts(String text) {
    return text.replaceAll("(?s)/\\*.*?\\*/", "").replaceAll("//[^\n]*", "").replaceAll("\"[^\"\n]*\"", "\"\"");
  }

  private static void imports(String code) {
    Matcher m = IMPORT.matcher(code);
    while (m.find()) {
      CHECK.holds(m.group(), IMPORTS.contains(m.group(1)));
    }
    CHECK.holds("no other import", !IMPORT.matcher(code).replaceAll("").contains("import "));
  }

  /** An arrow stands in the cases of a switch alone. */
  private static void noLambda(String[] lines) {
    for (String line : lines) {
      CHECK.holds("no lambda: " + line, !line.contains("->") || line.matches("\\s*(case\\b.*|default )->.*"));
    }
  }

  /** A block of try holds no throw. */
  private static void noThrowInItsOwnTry(String code) {
    Matcher m = Pattern.compile("\\btry \\{([^}]*)\\}").matcher(code);
    while (m.find()) {
      CHECK.holds("no throw in its own try: " + m.group(), !m.group(1).contains("throw "));
    }
  }

  /** A method begins with a line that ends in "{" and ends with a "}" under the line's first sign. */
  private static void methodLengths(String[] lines) {
    Pattern head = Pattern.compile("^( ++)(?!(if|for|while|do|switch|try)\\b)[\\w\\[\\]<> ]+\\([^=]*\\)[\\w, ]* \\{$");
    int methods = 0;
    for (int i = 0; i < lines.length; i++) {
      Matcher m = head.matcher(lines[i]);
      if (m.matches()) {
        int end = i;
        while (end + 1 < lines.length && !lines[end].equals(m.group(1) + "}")) {
          end++;
        }
        methods++;
        CHECK.holds("some sixty lines: " + lines[i].trim(), end - i < 65);
      }
    }
    CHECK.holds("the methods of the face were found: " + methods, methods > 41);
  }
}
