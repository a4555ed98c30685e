import java.io.IOException;
import java.nio.file.Files;
import java.nio.file.Path;
import java.util.List;
import java.util.regex.Matcher;
import java.util.regex.Pattern;

/** What LANGUAGE.md rules out and can be seen in the text of src/main/java/OwnWays.java (run where that path holds). */
public final class LanguageTest {
  private static final Check CHECK = new Check("LanguageTest");
  private static final Path SOURCE = Path.of("src/main/java/OwnWays.java");
  // Rules 2 to 6, 12 and 13: none of these words or signs stands in the program.
  private static final String[] RULED_OUT = {"->", "::", "\\bimport\\b", "\\bpackage\\b", "\\bfinally\\b",
    "\\bsynchronized\\b", "\\bassert\\b", "\\bequals\\b", "\\bhashCode\\b", "\\btoString\\b", "\\brecord\\b", "\\bvar\\b",
    "\\bMath\\.\\w*Exact\\b", "\\bSystem\\.(?!arraycopy\\b)", "\\bThread\\b", "\\bRandom\\b", "@\\w+", "\\bjava\\.",
    "\\bThrowable\\b", "\\bError\\b", "catch \\((Exception|RuntimeException|ArrayIndexOutOfBoundsException"
    + "|IndexOutOfBoundsException|NullPointerException|ArithmeticException|ClassCastException"
    + "|NegativeArraySizeException|ArrayStoreException)\\b", "\\bstatic (?!final\\b|class\\b)\\w+(\\[\\])? \\w+ ?=",
    "while \\(true\\)", "for \\(;;\\)"};
  private static final List<String> LIBRARY = List.of("System.arraycopy", "Integer.bitCount", "Long.bitCount");

  public static void main(String[] args) throws IOException {
    String text = Files.readString(SOURCE);
    String code = withoutCommentsAndTexts(text);
    for (String ruledOut : RULED_OUT) {
      Matcher m = Pattern.compile(ruledOut).matcher(code);
      CHECK.holds(ruledOut + " is ruled out" + (m.find() ? ": " + m.group() : ""), !m.reset().find());
    }
    libraryCalls(code);
    CHECK.holds("signs 1 to 127 alone", text.chars().allMatch(sign -> sign >= 1 && sign <= 127));
    methodLengths(text.split("\n"));
    CHECK.end();
  }

  private static String withoutCommentsAndTexts(String text) {
    return text.replaceAll("(?s)/\\*.*?\\*/", "").replaceAll("//[^\n]*", "").replaceAll("\"[^\"\n]*\"", "\"\"");
  }

  private static void libraryCalls(String code) {
    Matcher m = Pattern.compile("\\b(System|Integer|Long|Math|Arrays|String|Character)\\.\\w+").matcher(code);
    while (m.find()) {
      CHECK.holds(m.group() + " is of the library told", LIBRARY.contains(m.group()));
    }
  }

  /** A method begins with a line that ends in "{" and ends with a "}" under the line's first sign. */
  private static void methodLengths(String[] lines) {
    Pattern head = Pattern.compile("^( ++)(?!(if|for|while|do|switch|try)\\b)[\\w\\[\\]<> ]+\\([^=]*\\)[\\w, ]* \\{$");
    int methods = 0;
    for (int i = 0; i < lines.length; i++) {
      Matcher m = head.matcher(lines[i]);
      if (m.matches()) {
        int end = i;
        while (end + 1 < lines.length && !lines[end].equals(m.group(1) + "}")) {
          end++;
        }
        methods++;
        CHECK.holds("at most sixty lines: " + lines[i].trim(), end - i < 60);
      }
    }
    CHECK.holds("methods were found: " + methods, methods > 100);
  }
}
