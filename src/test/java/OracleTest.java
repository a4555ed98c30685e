import java.util.Random;

/** Long runs of calls, many with wrong arguments, answered by the class and by Model alike. */
public final class OracleTest {
  private static final Check CHECK = new Check("OracleTest");
  private static final int RUNS = 400;
  private static final int CALLS = 512;
  private static final int[] WILD = {-1, -2, 8, 10, 11, 12, 13, 99, 100, 101, 1023, 1024, 9999, 10000,
    2147483647, -2147483648, 1 << 30, -100};
  private static final String[] NAMES = {"group", "way", "child", "told", "slips", "work", "column", "right", "parts",
    "whose", "slip", "fits", "likely", "odds", "held", "most", "apart", "never", "luck", "clash", "comes", "day", "say",
    "bestSaying", "weeks", "groups", "greatest", "lesson", "lacks", "copied", "judge", "image", "restore", "count",
    "keep", "row", "put", "element", "copy", "cost", "toss"};

  private final Random random;
  private final OwnWays own = new OwnWays();
  private final Model model = new Model();
  private final int run;
  private final boolean isWild;
  private int calls;

  private OracleTest(int run) {
    this.run = run;
    random = new Random(run);
    isWild = run % 4 == 3;
  }

  public static void main(String[] args) {
    for (int run = 0; run < RUNS && !CHECK.hasWrong(); run++) {
      new OracleTest(run).go();
    }
    CHECK.end();
  }

  private void go() {
    text(0, someClass());
    call("group", 0);
    while (calls < CALLS && !CHECK.hasWrong()) {
      step();
    }
  }

  private void step() {
    switch (random.nextInt(12)) {
      case 0:
        if (calls < CALLS - 120) {
          text(0, random.nextInt(3) == 0 ? spoiled(someClass()) : someStatement());
        }
        call("group", 0);
        break;
      case 1:
        sheet(4);
        break;
      case 2:
        answers(5 + random.nextInt(2));
        break;
      case 3:
        judged(3);
        break;
      default:
        String name = NAMES[random.nextInt(NAMES.length)];
        call(name, arguments(name));
    }
  }

  // ---- what the shelves get

  private void text(int d, String text) {
    call("row", d, 0, text.length());
    for (int i = 0; i < text.length(); i++) {
      call("put", d, i, text.charAt(i));
    }
  }

  private String someClass() {
    StringBuilder text = new StringBuilder();
    int ways = 1 + random.nextInt(8);
    for (int w = 0; w < ways; w++) {
      text.append('y').append(random.nextInt(8)).append(random.nextInt(10)).append(1 + random.nextInt(99)).append(';');
    }
    for (int i = 0; i < 6; i++) {
      String more = random.nextBoolean() ? "k" + random.nextInt(ways) + random.nextInt(51) + ";"
          : "t" + random.nextInt(ways) + random.nextInt(ways) + (random.nextBoolean() ? ";" : random.nextInt(10) + ";");
      text.append(text.length() + more.length() <= 100 ? more : "");
    }
    return text.toString();
  }

  private String someStatement() {
    switch (random.nextInt(3)) {
      case 0: return "y" + random.nextInt(9) + random.nextInt(10) + random.nextInt(100) + ";";
      case 1: return "k" + random.nextInt(10) + random.nextInt(60) + ";";
      default: return "t" + random.nextInt(10) + random.nextInt(10) + (random.nextBoolean() ? ";" : "3;");
    }
  }

  private String spoiled(String text) {
    int place = random.nextInt(text.length());
    String sign = "" + "ykt;0123456789x".charAt(random.nextInt(15));
    switch (random.nextInt(3)) {
      case 0: return text.substring(0, place);
      case 1: return text.substring(0, place) + sign + text.substring(place + 1);
      default: return text.length() == 100 ? text : text.substring(0, place) + sign + text.substring(place);
    }
  }

  private int minuend() {
    switch (random.nextInt(4)) {
      case 0: return random.nextInt(100);
      case 1: return random.nextInt(10) * 1000 + random.nextInt(10);
      case 2: return random.nextInt(10) * 100 + random.nextInt(2) * 10;
      default: return random.nextInt(10000);
    }
  }

  private void sheet(int d) {
    int sums = random.nextInt(isWild ? 14 : 11);
    call("row", d, 2, 2 * sums + (random.nextInt(20) == 0 ? 1 : 0));
    for (int s = 0; s < sums; s++) {
      int a = minuend();
      call("put", d, 2 * s, a);
      call("put", d, 2 * s + 1, random.nextInt(60) == 0 ? a + 1 : random.nextInt(a + 1));
    }
  }

  /** Answers to the sheet in shelf 4: mostly those of one way, some left out, some spoiled. */
  private void answers(int e) {
    if (!model.now.kids().isEmpty() && random.nextBoolean()) {
      call("day", random.nextInt(model.now.kids().size()), 4, e, random.nextInt());
    } else if (model.shelves[4] instanceof Model.Row row && row.sort == 2 && !model.now.ways().isEmpty()) {
      int way = random.nextInt(model.now.ways().size());
      call("row", e, 2, row.cells.length / 2);
      for (int s = 0; s < row.cells.length / 2; s++) {
        int answer = answerOf(way, (int) row.cells[2 * s], (int) row.cells[2 * s + 1]);
        int sort = random.nextInt(12);
        call("put", e, s, sort == 0 ? -1 : sort == 1 ? random.nextInt(10000) : answer);
      }
    }
  }

  private int answerOf(int way, int a, int b) {
    return 0 <= b && b <= a && a <= 9999 ? model.answer(model.now.ways().get(way), a, b) : -1;
  }

  private void judged(int d) {
    int sort = random.nextInt(3);
    int a = sort == 0 ? random.nextInt(128) : minuend();
    int b = random.nextInt(a + 1);
    int n = random.nextInt(8);
    int answer = model.now.ways().isEmpty() ? 0 : answerOf(0, a, b);
    call("row", d, sort, n);
    int least = sort == 0 ? -128 : sort == 1 ? -32768 : -2147483648;
    for (int i = 0; i < n; i++) {
      int digit = random.nextInt(8) == 0 ? least : random.nextInt(12) == 0 ? random.nextInt(10) : answer % 10;
      call("put", d, i, i == 0 ? a : i == 1 ? b : digit);
      answer /= i < 2 ? 1 : 10;
    }
    call("judge", 0, d);
  }

  // ---- arguments as they come

  private int below(int n) {
    return isWild && random.nextInt(4) == 0 || random.nextInt(40) == 0 ? WILD[random.nextInt(WILD.length)]
        : random.nextInt(n);
  }

  private int someWay() {
    return below(Math.max(1, model.now.ways().size()));
  }

  private int someChild() {
    return below(Math.max(1, model.now.kids().size()));
  }

  private int someWays() {
    return below(1 << model.now.ways().size());
  }

  private int sheetShelf() {
    return random.nextInt(10) == 0 ? below(8) : 4;
  }

  private int answersShelf() {
    return random.nextInt(10) == 0 ? below(8) : 5 + random.nextInt(2);
  }

  private int[] arguments(String name) {
    int a = minuend();
    int b = random.nextInt(20) == 0 ? below(10000) : random.nextInt(a + 1);
    int ab = random.nextInt(20) == 0 ? random.nextInt() : 10000 * a + b;
    int answer = model.now.ways().isEmpty() || random.nextInt(4) == 0 || !(b >= 0 && b <= a) ? below(10000)
        : model.answer(model.now.ways().get(random.nextInt(model.now.ways().size())), a, b);
    switch (name) {
      case "group": case "cost": case "toss": return of(below(8));
      case "way": return of(someWay(), below(4));
      case "child": return of(someChild(), below(3));
      case "told": return of(below(10), someWay());
      case "slips": return of(someChild(), below(51));
      case "work": return of(someWay(), a, b);
      case "column": return of(someWay(), a, b, below(4), below(2));
      case "right": return of(a, b);
      case "parts": return of(a, b, someWays());
      case "whose": return of(a, b, answer);
      case "slip": return of(someWay(), sheetShelf(), answersShelf());
      case "fits": return of(sheetShelf(), answersShelf(), below(13));
      case "likely": case "lacks": return of(sheetShelf(), answersShelf());
      case "odds": return of(someWay(), sheetShelf(), answersShelf(), below(2));
      case "held": return of(sheetShelf(), answersShelf(), ab, answer, below(2));
      case "most": case "never": return of(sheetShelf(), someWays());
      case "apart": return of(sheetShelf(), someWays(), below(2));
      case "luck": return of(someWay(), sheetShelf(), below(2));
      case "clash": return of(someWay());
      case "comes": return of(someWay(), 1 + below(40));
      case "day": return of(someChild(), sheetShelf(), below(8), random.nextInt());
      case "say": return of(someChild(), below(10));
      case "bestSaying": return of(sheetShelf());
      case "weeks": return of(1 + below(20), below(101), below(101), random.nextInt());
      case "groups": return of(below(8));
      case "greatest": case "image": case "restore": return of();
      case "lesson": return of(1 + below(3));
      case "copied": return of(sheetShelf(), answersShelf(), answersShelf(), below(2));
      case "judge": return of(someWay(), random.nextInt(3) == 0 ? 3 : below(8));
      case "count": return of(below(6));
      case "keep": return of(below(8), below(2), someWay());
      case "row": return of(random.nextInt(4) == 0 ? below(8) : 7, below(3), below(101));
      case "put": return of(below(8), below(12), random.nextInt(4) == 0 ? random.nextInt() : below(10));
      case "element": return of(below(8), below(12));
      default: return of(below(8), below(5), below(8), below(5), below(5));
    }
  }

  private static int[] of(int... a) {
    return a;
  }

  // ---- both answer

  private void call(String name, int... a) {
    if (calls++ >= CALLS) {
      return;
    }
    Dispatch.alike(CHECK, "run " + run + ", call " + calls + ": ", own, model, name, a);
  }
}
