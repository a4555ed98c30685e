/** Every call with every two of its arguments at the edges of what is told and of an int: Model answers alike. */
public final class EdgesTest {
  private static final Check CHECK = new Check("EdgesTest");
  private static final int[] EDGES = {-2147483648, -2147483647, -32768, -128, -14, -2, -1, 0, 1, 2, 3, 4, 5, 6, 7, 8, 9,
    10, 11, 12, 13, 20, 21, 40, 41, 49, 50, 51, 99, 100, 101, 127, 128, 1023, 1024, 9999, 10000, 32767, 32768, 99999999,
    100000000, 2147483646, 2147483647};
  // No object is used for more than 512 calls.
  private static final int CALLS = 400;

  // Each with arguments that are good where the shelves are filled as in Pair.
  private static final Object[][] GOOD = {
    {"group", 0}, {"way", 1, 3}, {"child", 1, 0}, {"told", 0, 1}, {"slips", 1, 20}, {"work", 1, 5002, 17},
    {"column", 2, 5002, 17, 1, 0}, {"right", 42, 17}, {"parts", 42, 17, 7}, {"whose", 42, 17, 35}, {"slip", 1, 4, 5},
    {"fits", 4, 5, 1}, {"likely", 4, 5}, {"odds", 1, 4, 5, 1}, {"held", 4, 5, 420017, 35, 0}, {"most", 4, 7},
    {"apart", 4, 7, 1}, {"never", 4, 7}, {"luck", 0, 4, 0}, {"clash", 1}, {"comes", 1, 40}, {"day", 1, 4, 5, 77},
    {"say", 1, 0}, {"bestSaying", 4}, {"weeks", 3, 40, 30, 5}, {"groups", 1}, {"greatest"}, {"lesson", 2},
    {"lacks", 4, 5}, {"copied", 4, 5, 6, 0}, {"judge", 1, 3}, {"image"}, {"restore"}, {"count", 3}, {"keep", 2, 1, 1},
    {"row", 2, 1, 5}, {"put", 5, 1, 27}, {"element", 4, 1}, {"copy", 4, 1, 5, 0, 2}, {"cost", 1}, {"toss", 1}};

  /** The class and Model, asked alike. */
  private static final class Pair {
    final OwnWays own = new OwnWays();
    final Model model = new Model();
    int calls;

    void ask(String name, int... a) {
      calls++;
      Dispatch.alike(CHECK, "", own, model, name, a);
    }

    void fill(int d, int sort, int... values) {
      ask("row", d, sort, values.length);
      for (int i = 0; i < values.length; i++) {
        ask("put", d, i, values[i]);
      }
    }

    static Pair filled() {
      Pair pair = new Pair();
      String text = "y003;y145;y6720;k120;k250;t10;t123;";
      pair.fill(0, 0, text.chars().toArray());
      pair.ask("group", 0);
      pair.ask("image");
      pair.ask("keep", 1, 1, 2);
      pair.fill(3, 1, 42, 17, 5, 3, -32768);
      pair.fill(4, 2, 42, 17, 503, 48);
      pair.fill(5, 2, 35, 455);
      pair.fill(6, 2, 35, 99);
      return pair;
    }
  }

  public static void main(String[] args) {
    for (Object[] good : GOOD) {
      String name = (String) good[0];
      int[] a = new int[good.length - 1];
      for (int i = 0; i < a.length; i++) {
        a[i] = (Integer) good[i + 1];
      }
      everyTwo(name, a, true);
      everyTwo(name, a, false);
    }
    CHECK.end();
  }

  private static void everyTwo(String name, int[] good, boolean isFilled) {
    Pair pair = isFilled ? Pair.filled() : new Pair();
    pair.ask(name, good);
    for (int p = 0; p < good.length; p++) {
      for (int q = good.length == 1 ? p : p + 1; q < good.length; q++) {
        for (int v : EDGES) {
          for (int w : q == p ? new int[] {v} : EDGES) {
            if (pair.calls >= CALLS) {
              pair = isFilled ? Pair.filled() : new Pair();
            }
            int[] a = good.clone();
            a[p] = v;
            a[q] = w;
            pair.ask(name, a);
          }
        }
      }
    }
  }
}
