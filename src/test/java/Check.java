/** What the tests share: counting wrong answers, and filling shelves. */
final class Check {
  private final String name;
  private int asked;
  private int wrong;

  Check(String name) {
    this.name = name;
  }

  void due(String call, long got, long want) {
    asked++;
    if (got != want) {
      wrong++;
      System.out.println(name + ": " + call + " answered " + got + ", due is " + want);
    }
  }

  void holds(String what, boolean so) {
    due(what, so ? 1 : 0, 1);
  }

  boolean hasWrong() {
    return wrong > 0;
  }

  void end() {
    System.out.println(name + ": " + asked + " asked, " + wrong + " wrong");
    if (wrong > 0) {
      System.exit(1);
    }
  }

  /** A new object whose class is that text. */
  static OwnWays classOf(String text) {
    OwnWays x = new OwnWays();
    bytes(x, 0, text);
    int statements = x.group(0);
    if (statements < 1) {
      throw new AssertionError("not a class: " + text + " " + statements);
    }
    return x;
  }

  static void bytes(OwnWays x, int d, String text) {
    x.row(d, 0, text.length());
    for (int i = 0; i < text.length(); i++) {
      x.put(d, i, text.charAt(i));
    }
  }

  static int group(OwnWays x, String text) {
    bytes(x, 0, text);
    return x.group(0);
  }

  static void ints(OwnWays x, int d, int... values) {
    fill(x, d, 2, values);
  }

  static void fill(OwnWays x, int d, int sort, int... values) {
    x.row(d, sort, values.length);
    for (int i = 0; i < values.length; i++) {
      x.put(d, i, values[i]);
    }
  }

  /** 0: nothing is thrown, 1: IllegalArgumentException, 2: IllegalStateException, 3: another. */
  static int thrownByElement(OwnWays x, int d, int i) {
    try {
      x.element(d, i);
      return 0;
    } catch (RuntimeException e) {
      return e.getClass() == IllegalArgumentException.class ? 1 : e.getClass() == IllegalStateException.class ? 2 : 3;
    }
  }
}
