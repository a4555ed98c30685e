import java.io.IOException;
import java.nio.file.Files;
import java.nio.file.Path;
import java.util.regex.Matcher;
import java.util.regex.Pattern;

/** The calls that README.md shows answer what it says behind them (run where that path holds). */
public final class ReadmeTest {
  private static final Check CHECK = new Check("ReadmeTest");
  private static final Path README = Path.of("README.md");
  private static final Pattern BYTES = Pattern.compile("bytes\\(x, (\\d), \"(.*)\"\\);");
  private static final Pattern INTS = Pattern.compile("ints\\(x, (\\d), ([-\\d, ]+)\\);");
  private static final Pattern CALL = Pattern.compile("x\\.(\\w+)\\(([-\\d, ]*)\\); +// (-?\\d+)\\b.*");

  public static void main(String[] args) throws IOException {
    OwnWays x = new OwnWays();
    int asked = 0;
    for (String line : Files.readAllLines(README)) {
      Matcher bytes = BYTES.matcher(line);
      Matcher ints = INTS.matcher(line);
      Matcher call = CALL.matcher(line);
      if (bytes.matches()) {
        Check.bytes(x, Integer.parseInt(bytes.group(1)), bytes.group(2));
      } else if (ints.matches()) {
        Check.ints(x, Integer.parseInt(ints.group(1)), numbers(ints.group(2)));
      } else if (call.matches()) {
        CHECK.due(line, Dispatch.ownAnswer(x, call.group(1), numbers(call.group(2))), Long.parseLong(call.group(3)));
        asked++;
      } else {
        CHECK.holds("a call that can be read: " + line, !line.startsWith("x."));
      }
    }
    CHECK.holds("calls are shown", asked > 0);
    CHECK.end();
  }

  private static int[] numbers(String told) {
    String[] parts = told.isEmpty() ? new String[0] : told.split(", ");
    int[] numbers = new int[parts.length];
    for (int i = 0; i < parts.length; i++) {
      numbers[i] = Integer.parseInt(parts[i]);
    }
    return numbers;
  }
}
