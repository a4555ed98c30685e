/** Sums in columns worked by children's own ways. What each call promises stands in ../shared/DOC.md. */
public final class OwnWays {
  private static final int NO_SUCH = -1;
  private static final int NOT_NOW = -3;
  private static final int NONE = -4;
  private static final int EMPTY = -11;
  private static final int OTHER_KIND = -12;
  private static final int NO_PLACE = -13;
  private static final int BELOW_NOUGHT = -14;
  private static final int NO_FAILURE = -15;
  private static final int NO_REFUSAL = 0;

  private static final int COLUMNS = 4;
  private static final int TEN = 10;
  private static final int MOST_IN_SUM = 9999;
  private static final int WAYS = 10;
  private static final int CHILDREN = 8;
  private static final int SAYINGS = 10;
  private static final int MOST_SLIPS = 50;
  private static final int SHELVES = 8;
  private static final int SUMS = 12;
  private static final int MOST_SUMS_APART = 10;
  private static final int ELEMENTS = 100;
  private static final int LEFT_OUT = -1;
  private static final int HUNDRED = 100;

  private static final int KINDS = 8;
  private static final int RIGHT_KIND = 0;

  private static final int BYTES = 0;
  private static final int SHORTS = 1;
  private static final int INTS = 2;
  private static final int NO_ROW = -1;

  private final SchoolClass now = new SchoolClass();
  private final SchoolClass trial = new SchoolClass();
  private final SchoolClass imaged = new SchoolClass();
  private boolean hasImage;
  private final Shelf[] shelves = new Shelf[SHELVES];

  // The rest is paper to work on: it is written anew in each call, so that no call makes rows of its own.
  private final Paper paper = new Paper();
  private final int[] minuends = new int[SUMS];
  private final int[] subtrahends = new int[SUMS];
  private int sumCount;
  private final int[] answered = new int[SUMS];
  private final int[] answeredToo = new int[SUMS];
  private final int[] byWay = new int[WAYS];
  private final long[] partedBy = new long[SUMS];
  private final int[] inMind = new int[CHILDREN];
  private int seed;

  public OwnWays() {
    for (int d = 0; d < SHELVES; d++) {
      shelves[d] = new Shelf();
    }
  }

  // ---- classes

  public int group(int d) {
    Shelf text = shelfAt(d);
    if (text == null) {
      return NO_SUCH;
    }
    int refusal = text.sortRefusal(BYTES);
    if (refusal != NO_REFUSAL) {
      return refusal;
    }
    trial.becomes(now);
    int statements = trial.readFrom(text);
    if (statements > 0) {
      now.becomes(trial);
    }
    return statements;
  }

  public int way(int way, int what) {
    Way told = now.wayAt(way);
    if (told == null) {
      return NO_SUCH;
    }
    switch (what) {
      case 0: return told.kind;
      case 1: return told.figure;
      case 2: return told.weight;
      case 3: return told.teachingCost();
      default: return NO_SUCH;
    }
  }

  public int child(int child, int what) {
    if (!now.hasChild(child)) {
      return NO_SUCH;
    }
    switch (what) {
      case 0: return at(now.held, child);
      case 1: return at(now.slipping, child);
      case 2: return at(now.heldFirst, child);
      default: return NO_SUCH;
    }
  }

  public int told(int saying, int way) {
    return now.toldBy(saying, way);
  }

  public int slips(int child, int n) {
    if (!now.hasChild(child) || n < 0 || n > MOST_SLIPS) {
      return NO_SUCH;
    }
    int before = at(now.slipping, child);
    set(now.slipping, child, n);
    return before;
  }

  // ---- sums

  public int work(int way, int a, int b) {
    return isSum(a, b) ? answerTo(way, a, b) : NO_SUCH;
  }

  public int column(int way, int a, int b, int column, int what) {
    if (!now.hasWay(way) || !isSum(a, b) || column < 0 || column >= COLUMNS || !isZeroOrOne(what)) {
      return NO_SUCH;
    }
    answerTo(way, a, b);
    return what == 0 ? at(paper.written, column) : paper.stuck >> column & 1;
  }

  public int right(int a, int b) {
    return isSum(a, b) ? waysAnswering(a, b, a - b) : NO_SUCH;
  }

  public int parts(int a, int b, int ways) {
    return isSum(a, b) && now.hasWays(ways) ? unlikeAnswers(a, b, ways) : NO_SUCH;
  }

  public int whose(int a, int b, int answer) {
    return isSum(a, b) && isAnswer(answer) ? waysAnswering(a, b, answer) : NO_SUCH;
  }

  // ---- sheets, answers

  public int slip(int way, int d, int e) {
    if (!now.hasWay(way)) {
      return NO_SUCH;
    }
    int refusal = refusalOfBoth(d, e);
    return refusal != NO_REFUSAL ? refusal : slipsBy(way);
  }

  public int fits(int d, int e, int n) {
    if (n < 0 || n > SUMS) {
      return NO_SUCH;
    }
    int refusal = refusalOfBoth(d, e);
    return refusal != NO_REFUSAL ? refusal : waysFitting(n);
  }

  public int likely(int d, int e) {
    int refusal = refusalOfBoth(d, e);
    return refusal != NO_REFUSAL ? refusal : likeliest();
  }

  public int odds(int way, int d, int e, int part) {
    if (!now.hasWay(way) || !isZeroOrOne(part)) {
      return NO_SUCH;
    }
    int refusal = refusalOfBoth(d, e);
    if (refusal != NO_REFUSAL) {
      return refusal;
    }
    int all = 0;
    for (int w = 0; w < now.wayCount; w++) {
      all += chance(w);
    }
    return inLeastTerms(chance(way), all, part);
  }

  public int held(int d, int e, int ab, int answer, int part) {
    if (ab < 0 || !isSum(ab / 10000, ab % 10000) || !isAnswer(answer) || !isZeroOrOne(part)) {
      return NO_SUCH;
    }
    int refusal = refusalOfBoth(d, e);
    if (refusal != NO_REFUSAL) {
      return refusal;
    }
    int fitting = waysFitting(0);
    if (fitting == 0) {
      return NONE;
    }
    int saying = waysAnswering(ab / 10000, ab % 10000, answer);
    return inLeastTerms(weightOfAll(fitting & saying), weightOfAll(fitting), part);
  }

  public int most(int d, int ways) {
    if (!now.hasWays(ways)) {
      return NO_SUCH;
    }
    int refusal = refusalOfSheet(d);
    if (refusal != NO_REFUSAL) {
      return refusal;
    }
    int best = NONE;
    int most = -1;
    for (int s = 0; s < sumCount; s++) {
      int unlike = unlikeAnswers(at(minuends, s), at(subtrahends, s), ways);
      if (unlike > most) {
        most = unlike;
        best = s;
      }
    }
    return best;
  }

  public int apart(int d, int ways, int what) {
    if (!now.hasWays(ways) || !isZeroOrOne(what)) {
      return NO_SUCH;
    }
    int refusal = refusalOfSheet(d);
    if (refusal != NO_REFUSAL) {
      return refusal;
    }
    if (sumCount > MOST_SUMS_APART) {
      return NO_PLACE;
    }
    int sums = fewestParting(partPairs(ways));
    return what == 0 ? Integer.bitCount(sums) : sums;
  }

  public int never(int d, int ways) {
    if (!now.hasWays(ways)) {
      return NO_SUCH;
    }
    int refusal = refusalOfSheet(d);
    if (refusal != NO_REFUSAL) {
      return refusal;
    }
    int many = Integer.bitCount(ways);
    return many * (many - 1) / 2 - Long.bitCount(partPairs(ways));
  }

  public int luck(int way, int d, int what) {
    if (!now.hasWay(way) || !isZeroOrOne(what)) {
      return NO_SUCH;
    }
    int refusal = refusalOfSheet(d);
    return refusal != NO_REFUSAL ? refusal : marksBy(way, what == 0);
  }

  public int clash(int way) {
    if (!now.hasWay(way)) {
      return NO_SUCH;
    }
    for (int a = 0; a < HUNDRED; a++) {
      for (int b = 0; b <= a; b++) {
        if (answerTo(way, a, b) > a) {
          return HUNDRED * a + b;
        }
      }
    }
    return NONE;
  }

  public int comes(int way, int n) {
    if (!now.hasWay(way) || n < 1 || n > 40) {
      return NO_SUCH;
    }
    int wrong = 0;
    for (int a = 0; a < n; a++) {
      for (int b = 0; b <= a; b++) {
        if (answerTo(way, a, b) != a - b) {
          wrong++;
        }
      }
    }
    return wrong;
  }

  // ---- children

  public int day(int child, int d, int e, int z) {
    Shelf answers = shelfAt(e);
    if (!now.hasChild(child) || answers == null) {
      return NO_SUCH;
    }
    int refusal = refusalOfSheet(d);
    if (refusal != NO_REFUSAL) {
      return refusal;
    }
    seed = z;
    int slipped = 0;
    answers.takeRow(INTS, sumCount);
    for (int s = 0; s < sumCount; s++) {
      int answer = answerToSum(at(now.held, child), s);
      if (draw(HUNDRED) < at(now.slipping, child)) {
        answer = slippedFrom(answer);
        slipped++;
      }
      answers.store(s, answer);
    }
    return slipped;
  }

  public int say(int child, int saying) {
    if (!now.hasChild(child) || saying < 0 || saying >= SAYINGS) {
      return NO_SUCH;
    }
    int way = now.toldBy(saying, at(now.held, child));
    set(now.held, child, way);
    return way;
  }

  public int bestSaying(int d) {
    int refusal = refusalOfSheet(d);
    if (refusal != NO_REFUSAL) {
      return refusal;
    }
    int most = 0;
    for (int w = 0; w < now.wayCount; w++) {
      set(byWay, w, marksBy(w, false));
    }
    for (int c = 0; c < now.childCount; c++) {
      most += at(byWay, at(now.held, c));
    }
    int best = NONE;
    for (int saying = 0; saying < SAYINGS; saying++) {
      int marks = 0;
      for (int c = 0; c < now.childCount; c++) {
        marks += at(byWay, now.toldBy(saying, at(now.held, c)));
      }
      if (marks > most) {
        most = marks;
        best = saying;
      }
    }
    return best;
  }

  public int weeks(int n, int p, int q, int z) {
    if (n < 1 || n > 20 || p < 0 || p > HUNDRED || q < 0 || q > HUNDRED) {
      return NO_SUCH;
    }
    if (now.childCount == 0) {
      return NOT_NOW;
    }
    seed = z;
    for (int c = 0; c < now.childCount; c++) {
      set(inMind, c, at(now.held, c));
    }
    for (int week = 0; week < n; week++) {
      weekInMind(p, q);
    }
    int rightly = 0;
    for (int c = 0; c < now.childCount; c++) {
      if (now.kindOf(at(inMind, c)) == RIGHT_KIND) {
        rightly++;
      }
    }
    return rightly;
  }

  public int groups(int kind) {
    return kind < 0 || kind >= KINDS ? NO_SUCH : childrenOfKind(kind);
  }

  public int greatest() {
    return greatestKind(0);
  }

  public int lesson(int m) {
    if (m < 1 || m > 3) {
      return NO_SUCH;
    }
    int taught = 0;
    int children = 0;
    for (int i = 0; i < m; i++) {
      int kind = greatestKind(taught);
      if (kind != NONE) {
        taught |= 1 << kind;
        children += childrenOfKind(kind);
      }
    }
    return children;
  }

  public int lacks(int d, int e) {
    int refusal = refusalOfBoth(d, e);
    if (refusal != NO_REFUSAL) {
      return refusal;
    }
    int way = likeliest();
    return way == NONE ? NONE : now.kindOf(way);
  }

  public int copied(int d, int e, int f, int what) {
    if (!isZeroOrOne(what)) {
      return NO_SUCH;
    }
    int refusal = refusalOfBoth(d, e);
    if (refusal == NO_REFUSAL) {
      refusal = refusalOfAnswers(f, answeredToo);
    }
    if (refusal != NO_REFUSAL) {
      return refusal;
    }
    int alike = 0;
    for (int s = 0; s < sumCount; s++) {
      if (isCopied(s) && (what == 0 || comesByNoWay(s))) {
        alike++;
      }
    }
    return alike;
  }

  public int judge(int way, int d) {
    Shelf row = shelfAt(d);
    if (!now.hasWay(way) || row == null) {
      return NO_SUCH;
    }
    int refusal = row.rowRefusal();
    if (refusal != NO_REFUSAL) {
      return refusal;
    }
    if (row.size < 2 || !isSum(row.get(0), row.get(1))) {
      return NO_PLACE;
    }
    answerTo(way, row.get(0), row.get(1));
    for (int i = 2; i < row.size; i++) {
      int digit = row.get(i);
      if (digit != row.leastOfSort() && (i - 2 >= COLUMNS || digit != at(paper.written, i - 2))) {
        return i;
      }
    }
    return NONE;
  }

  // ---- the image, what is told

  public int image() {
    imaged.becomes(now);
    hasImage = true;
    return now.childCount;
  }

  public int restore() {
    if (!hasImage) {
      return NOT_NOW;
    }
    now.becomes(imaged);
    return now.childCount;
  }

  public int count(int what) {
    switch (what) {
      case 0: return now.wayCount;
      case 1: return now.childCount;
      case 2: return waysOfRightKind();
      case 3: return weightOfAll(now.allWays());
      case 4: return childrenChanged();
      case 5: return now.toldCount();
      default: return NO_SUCH;
    }
  }

  // ---- shelves

  public int keep(int d, int what, int k) {
    Shelf shelf = shelfAt(d);
    if (shelf == null || !isZeroOrOne(what) || what == 1 && !now.hasWay(k)) {
      return NO_SUCH;
    }
    shelf.takeWay(what == 1 ? now.wayAt(k) : null);
    return 0;
  }

  public int row(int d, int sort, int n) {
    Shelf shelf = shelfAt(d);
    if (shelf == null || sort < BYTES || sort > INTS || n > ELEMENTS) {
      return NO_SUCH;
    }
    if (n < 0) {
      return BELOW_NOUGHT;
    }
    shelf.takeRow(sort, n);
    return 0;
  }

  public int put(int d, int i, int v) {
    Shelf shelf = shelfAt(d);
    if (shelf == null) {
      return NO_SUCH;
    }
    int refusal = shelf.rowRefusal();
    if (refusal != NO_REFUSAL) {
      return refusal;
    }
    if (!shelf.hasPlace(i)) {
      return NO_PLACE;
    }
    shelf.store(i, v);
    return 0;
  }

  public long element(int d, int i) throws IllegalArgumentException, IllegalStateException {
    Shelf shelf = shelfAt(d);
    if (shelf == null) {
      throw new IllegalArgumentException("no such shelf");
    }
    if (shelf.rowRefusal() != NO_REFUSAL || !shelf.hasPlace(i)) {
      throw new IllegalStateException("no row, or no such place");
    }
    return shelf.get(i);
  }

  public int copy(int d, int i, int e, int j, int n) {
    Shelf from = shelfAt(d);
    Shelf to = shelfAt(e);
    if (from == null || to == null) {
      return NO_SUCH;
    }
    if (from.isEmpty() || to.isEmpty()) {
      return EMPTY;
    }
    if (from.sort == NO_ROW || from.sort != to.sort) {
      return OTHER_KIND;
    }
    if (!from.hasPlaces(i, n) || !to.hasPlaces(j, n)) {
      return NO_PLACE;
    }
    System.arraycopy(from.elements, i, to.elements, j, n);
    return n;
  }

  public int cost(int d) {
    Shelf shelf = shelfAt(d);
    if (shelf == null) {
      return NO_SUCH;
    }
    Way way = shelf.way;
    return way == null ? shelf.wayRefusal() : way.teachingCost();
  }

  public int toss(int d) {
    Shelf shelf = shelfAt(d);
    if (shelf == null) {
      return NO_SUCH;
    }
    Way way = shelf.way;
    if (way == null) {
      return shelf.wayRefusal();
    }
    return way.hasFailure() ? caughtFrom(way) : NO_FAILURE;
  }

  // ---- what the calls share

  private static int at(int[] cells, int i) {
    return i >= 0 && i < cells.length ? cells[i] : 0;
  }

  private static void set(int[] cells, int i, int v) {
    if (i >= 0 && i < cells.length) {
      cells[i] = v;
    }
  }

  private static boolean isZeroOrOne(int what) {
    return what == 0 || what == 1;
  }

  private static boolean isAmong(int bits, int i) {
    return (bits >> i & 1) == 1;
  }

  private static boolean isSum(int a, int b) {
    return b >= 0 && b <= a && a <= MOST_IN_SUM;
  }

  private static boolean isAnswer(int answer) {
    return answer >= 0 && answer <= MOST_IN_SUM;
  }

  private Shelf shelfAt(int d) {
    return d >= 0 && d < SHELVES ? shelves[d] : null;
  }

  private int answerTo(int way, int a, int b) {
    return paper.workedBy(now.wayAt(way), a, b);
  }

  private int answerToSum(int way, int s) {
    return paper.workedBy(now.wayAt(way), at(minuends, s), at(subtrahends, s));
  }

  private int waysAnswering(int a, int b, int answer) {
    int ways = 0;
    for (int w = 0; w < now.wayCount; w++) {
      if (answerTo(w, a, b) == answer) {
        ways |= 1 << w;
      }
    }
    return ways;
  }

  private int unlikeAnswers(int a, int b, int ways) {
    int unlike = 0;
    for (int w = 0; w < now.wayCount; w++) {
      int answer = answerTo(w, a, b);
      if (isAmong(ways, w) && isNew(answer, unlike)) {
        set(byWay, unlike, answer);
        unlike++;
      }
    }
    return unlike;
  }

  private boolean isNew(int answer, int known) {
    for (int i = 0; i < known; i++) {
      if (at(byWay, i) == answer) {
        return false;
      }
    }
    return true;
  }

  private int refusalOfSheet(int d) {
    Shelf shelf = shelfAt(d);
    if (shelf == null) {
      return NO_SUCH;
    }
    int refusal = shelf.sortRefusal(INTS);
    if (refusal != NO_REFUSAL) {
      return refusal;
    }
    if (shelf.size % 2 != 0 || shelf.size > 2 * SUMS) {
      return NO_PLACE;
    }
    sumCount = shelf.size / 2;
    for (int s = 0; s < sumCount; s++) {
      if (!isSum(shelf.get(2 * s), shelf.get(2 * s + 1))) {
        return NO_PLACE;
      }
      set(minuends, s, shelf.get(2 * s));
      set(subtrahends, s, shelf.get(2 * s + 1));
    }
    return NO_REFUSAL;
  }

  /** Asks only what comes after the sheet has been read: sumCount tells how many answers are due. */
  private int refusalOfAnswers(int e, int[] answers) {
    Shelf shelf = shelfAt(e);
    if (shelf == null) {
      return NO_SUCH;
    }
    int refusal = shelf.sortRefusal(INTS);
    if (refusal != NO_REFUSAL) {
      return refusal;
    }
    if (shelf.size != sumCount) {
      return NO_PLACE;
    }
    for (int s = 0; s < sumCount; s++) {
      set(answers, s, shelf.get(s));
    }
    return NO_REFUSAL;
  }

  private int refusalOfBoth(int d, int e) {
    int refusal = refusalOfSheet(d);
    return refusal != NO_REFUSAL ? refusal : refusalOfAnswers(e, answered);
  }

  private int slipsBy(int way) {
    int slips = 0;
    for (int s = 0; s < sumCount; s++) {
      int answer = at(answered, s);
      if (answer != LEFT_OUT && answer != answerToSum(way, s)) {
        slips++;
      }
    }
    return slips;
  }

  private int waysFitting(int n) {
    int ways = 0;
    for (int w = 0; w < now.wayCount; w++) {
      if (slipsBy(w) <= n) {
        ways |= 1 << w;
      }
    }
    return ways;
  }

  private int likeliest() {
    int best = NONE;
    int fewest = SUMS + 1;
    for (int w = 0; w < now.wayCount; w++) {
      int slips = slipsBy(w);
      if (slips < fewest || slips == fewest && now.weightOf(w) > now.weightOf(best)) {
        fewest = slips;
        best = w;
      }
    }
    return best;
  }

  private int chance(int way) {
    return now.weightOf(way) << SUMS - slipsBy(way);
  }

  private int weightOfAll(int ways) {
    int weight = 0;
    for (int w = 0; w < now.wayCount; w++) {
      if (isAmong(ways, w)) {
        weight += now.weightOf(w);
      }
    }
    return weight;
  }

  private static int inLeastTerms(int above, int below, int part) {
    int divisor = greatestDivisor(above, below);
    if (divisor == 0) {
      return 0;
    }
    return (part == 0 ? above : below) / divisor;
  }

  private static int greatestDivisor(int a, int b) {
    int greater = a;
    int rest = b;
    // Two ints never need as many as 64 steps.
    for (int step = 0; step < 64 && rest != 0; step++) {
      int next = greater % rest;
      greater = rest;
      rest = next;
    }
    return greater;
  }

  /** Writes for each sum of the sheet which pairs of the ways it parts (a bit a pair); tells all that any parts. */
  private long partPairs(int ways) {
    long all = 0;
    for (int s = 0; s < sumCount && s < SUMS; s++) {
      for (int w = 0; w < WAYS; w++) {
        set(byWay, w, answerToSum(w, s));
      }
      partedBy[s] = pairsUnlike(ways);
      all |= partedBy[s];
    }
    return all;
  }

  private long pairsUnlike(int ways) {
    long pairs = 0;
    int pair = 0;
    for (int v = 0; v < WAYS; v++) {
      for (int w = v + 1; w < WAYS; w++) {
        if (isAmong(ways, v) && isAmong(ways, w) && at(byWay, v) != at(byWay, w)) {
          pairs |= 1L << pair;
        }
        pair++;
      }
    }
    return pairs;
  }

  private int fewestParting(long pairs) {
    int best = 0;
    int fewest = SUMS + 1;
    for (int sums = 0; sums < 1 << MOST_SUMS_APART && sums >> sumCount == 0; sums++) {
      if (Integer.bitCount(sums) < fewest && pairsPartedBy(sums) == pairs) {
        fewest = Integer.bitCount(sums);
        best = sums;
      }
    }
    return best;
  }

  private long pairsPartedBy(int sums) {
    long pairs = 0;
    for (int s = 0; s < SUMS; s++) {
      if (isAmong(sums, s)) {
        pairs |= partedBy[s];
      }
    }
    return pairs;
  }

  private int marksBy(int way, boolean onlyWhereStuck) {
    int marks = 0;
    for (int s = 0; s < sumCount; s++) {
      boolean isRight = answerToSum(way, s) == at(minuends, s) - at(subtrahends, s);
      if (isRight && (!onlyWhereStuck || paper.stuck != 0)) {
        marks++;
      }
    }
    return marks;
  }

  private int draw(int n) {
    seed = seed * 1103515245 + 12345;
    return n > 0 ? (seed & 0x7fffffff) / 65536 % n : 0;
  }

  private int slippedFrom(int answer) {
    int column = draw(4);
    int place = 1;
    for (int c = 0; c < column; c++) {
      place *= TEN;
    }
    int step = draw(2) == 0 ? 1 : 9;
    int digit = answer / place % TEN;
    return answer + ((digit + step) % TEN - digit) * place;
  }

  private void weekInMind(int p, int q) {
    for (int c = 0; c < now.childCount; c++) {
      int drawn = draw(HUNDRED);
      if (drawn < p) {
        set(inMind, c, now.toldBy(0, at(inMind, c)));
      } else if (drawn < p + q) {
        set(inMind, c, at(now.heldFirst, c));
      }
    }
  }

  private int childrenOfKind(int kind) {
    int children = 0;
    for (int c = 0; c < now.childCount; c++) {
      if (now.kindOf(at(now.held, c)) == kind) {
        children++;
      }
    }
    return children;
  }

  /** The kind (0 aside, and those told aside as bits) that most children have. */
  private int greatestKind(int aside) {
    int best = NONE;
    int most = 0;
    for (int kind = 1; kind < KINDS; kind++) {
      int children = childrenOfKind(kind);
      if (children > most && !isAmong(aside, kind)) {
        most = children;
        best = kind;
      }
    }
    return best;
  }

  private boolean isCopied(int s) {
    int answer = at(answered, s);
    return answer == at(answeredToo, s) && answer != LEFT_OUT && answer != at(minuends, s) - at(subtrahends, s);
  }

  private boolean comesByNoWay(int s) {
    return waysAnswering(at(minuends, s), at(subtrahends, s), at(answered, s)) == 0;
  }

  private int waysOfRightKind() {
    int ways = 0;
    for (int w = 0; w < now.wayCount; w++) {
      if (now.kindOf(w) == RIGHT_KIND) {
        ways++;
      }
    }
    return ways;
  }

  private int childrenChanged() {
    int children = 0;
    for (int c = 0; c < now.childCount; c++) {
      if (at(now.held, c) != at(now.heldFirst, c)) {
        children++;
      }
    }
    return children;
  }

  private static int caughtFrom(Way way) {
    try {
      way.fail();
    } catch (UnsupportedOperationException topped) {
      return 200 + way.teachingCost();
    } catch (IllegalArgumentException patched) {
      return HUNDRED + way.number;
    } catch (IllegalStateException any) {
      return way.number;
    }
    return NO_FAILURE;
  }

  // ---- the ways, each under the one that it is a kind of

  private static class Way {
    final int kind;
    final int number;
    final int figure;
    final int weight;

    Way(int kind, int number, int figure, int weight) {
      this.kind = kind;
      this.number = number;
      this.figure = figure;
      this.weight = weight;
    }

    int teachingCost() {
      return 0;
    }

    /** The digit written in a column where this way is stuck. */
    int writes(Paper paper, int column, int upper, int lower) {
      return paper.borrowed(column, true);
    }

    boolean hasFailure() {
      return figure != 0;
    }

    void fail() {
      throw new IllegalStateException("a way fails");
    }
  }

  private static class Turned extends Way {
    Turned(int kind, int number, int figure, int weight) {
      super(kind, number, figure, weight);
    }

    int teachingCost() {
      return super.teachingCost() + 8;
    }

    int writes(Paper paper, int column, int upper, int lower) {
      return lower - upper;
    }
  }

  private static final class Nought extends Way {
    Nought(int kind, int number, int figure, int weight) {
      super(kind, number, figure, weight);
    }

    int teachingCost() {
      return super.teachingCost() + 5;
    }

    int writes(Paper paper, int column, int upper, int lower) {
      return 0;
    }
  }

  private static class Given extends Way {
    Given(int kind, int number, int figure, int weight) {
      super(kind, number, figure, weight);
    }

    int teachingCost() {
      return super.teachingCost() + figure;
    }

    int writes(Paper paper, int column, int upper, int lower) {
      return upper + TEN - lower;
    }
  }

  private static class Across extends Way {
    Across(int kind, int number, int figure, int weight) {
      super(kind, number, figure, weight);
    }

    int teachingCost() {
      return super.teachingCost() + 12;
    }

    int writes(Paper paper, int column, int upper, int lower) {
      return paper.borrowed(column, false);
    }
  }

  private static final class Zero extends Turned {
    Zero(int kind, int number, int figure, int weight) {
      super(kind, number, figure, weight);
    }

    int teachingCost() {
      return super.teachingCost() / 2;
    }

    int writes(Paper paper, int column, int upper, int lower) {
      return upper == 0 ? super.writes(paper, column, upper, lower) : paper.borrowed(column, true);
    }

    boolean hasFailure() {
      return false;
    }
  }

  private static final class Patched extends Across {
    Patched(int kind, int number, int figure, int weight) {
      super(kind, number, figure, weight);
    }

    int teachingCost() {
      return super.teachingCost() + figure;
    }

    int writes(Paper paper, int column, int upper, int lower) {
      if (at(paper.upper, column + 1) > 0) {
        return super.writes(paper, column, upper, lower);
      }
      switch (figure % 4) {
        case 0: return 0;
        case 1: return lower - upper;
        case 2: return upper + TEN - lower;
        default: return lower;
      }
    }

    void fail() {
      throw new IllegalArgumentException("a patched way fails");
    }
  }

  private static final class Topped extends Given {
    Topped(int kind, int number, int figure, int weight) {
      super(kind, number, figure, weight);
    }

    int teachingCost() {
      return 2 * super.teachingCost() + 1;
    }

    int writes(Paper paper, int column, int upper, int lower) {
      return column == COLUMNS - 1 ? 0 : super.writes(paper, column, upper, lower);
    }

    void fail() {
      throw new UnsupportedOperationException("a topped way fails");
    }
  }

  /** Where one sum at a time is worked: its digits as they are by then, and what was written below. */
  private static final class Paper {
    final int[] upper = new int[COLUMNS];
    final int[] lower = new int[COLUMNS];
    final int[] written = new int[COLUMNS];
    int stuck;

    int workedBy(Way way, int a, int b) {
      if (way == null) {
        return NO_SUCH;
      }
      layOut(upper, a);
      layOut(lower, b);
      stuck = 0;
      int answer = 0;
      int place = 1;
      for (int c = 0; c < COLUMNS; c++) {
        written[c] = upper[c] - lower[c];
        if (upper[c] < lower[c]) {
          stuck |= 1 << c;
          written[c] = way.writes(this, c, upper[c], lower[c]);
        }
        answer += written[c] * place;
        place *= TEN;
      }
      return answer;
    }

    private static void layOut(int[] digits, int number) {
      int rest = number;
      for (int c = 0; c < digits.length; c++) {
        digits[c] = rest % TEN;
        rest /= TEN;
      }
    }

    /** The digit written when one is taken of the next column that has any; 0, if none has. */
    int borrowed(int column, boolean noughtsBecomeNines) {
      for (int c = column + 1; column >= 0 && c < COLUMNS; c++) {
        if (upper[c] > 0) {
          upper[c]--;
          for (int between = column + 1; noughtsBecomeNines && between < c; between++) {
            upper[between] = 9;
          }
          return upper[column] + TEN - lower[column];
        }
      }
      return 0;
    }
  }

  /** The ways, the children and the sayings: all that an image keeps. */
  private static final class SchoolClass {
    final Way[] ways = new Way[WAYS];
    int wayCount;
    final int[] held = new int[CHILDREN];
    final int[] heldFirst = new int[CHILDREN];
    final int[] slipping = new int[CHILDREN];
    int childCount;
    // A saying's way for a way, and 1; 0 where nothing is told.
    final int[] sayings = new int[SAYINGS * WAYS];

    // Where the reading of a text stands, and the statement read last.
    int place;
    int letter;
    final int[] numbers = new int[3];

    Way wayAt(int way) {
      return way >= 0 && way < wayCount && way < WAYS ? ways[way] : null;
    }

    boolean hasWay(int way) {
      return wayAt(way) != null;
    }

    int allWays() {
      return (1 << wayCount) - 1;
    }

    boolean hasWays(int bits) {
      return (bits & ~allWays()) == 0;
    }

    boolean hasChild(int child) {
      return child >= 0 && child < childCount;
    }

    int kindOf(int way) {
      Way told = wayAt(way);
      return told == null ? NO_SUCH : told.kind;
    }

    int weightOf(int way) {
      Way told = wayAt(way);
      return told == null ? 0 : told.weight;
    }

    int toldBy(int saying, int way) {
      if (saying < 0 || saying >= SAYINGS || !hasWay(way)) {
        return NO_SUCH;
      }
      int told = at(sayings, saying * WAYS + way);
      return told == 0 ? way : told - 1;
    }

    int toldCount() {
      int count = 0;
      for (int i = 0; i < sayings.length; i++) {
        if (sayings[i] != 0) {
          count++;
        }
      }
      return count;
    }

    void becomes(SchoolClass other) {
      if (other == null) {
        return;
      }
      wayCount = other.wayCount;
      childCount = other.childCount;
      for (int w = 0; w < WAYS; w++) {
        ways[w] = other.ways[w];
      }
      for (int c = 0; c < CHILDREN; c++) {
        held[c] = other.held[c];
        heldFirst[c] = other.heldFirst[c];
        slipping[c] = other.slipping[c];
      }
      for (int i = 0; i < SAYINGS * WAYS; i++) {
        sayings[i] = other.sayings[i];
      }
    }

    /** How many statements the text has, all taken; or its fault, and then some may be taken. */
    int readFrom(Shelf text) {
      int misfit = -1;
      int count = 0;
      place = 0;
      do {
        int start = place;
        if (!readsStatement(text)) {
          return -1000 - place;
        }
        if (misfit < 0 && !takesStatement()) {
          misfit = start;
        }
        count++;
      } while (count < ELEMENTS && place < text.size);
      return misfit < 0 ? count : -2000 - misfit;
    }

    private boolean readsStatement(Shelf text) {
      letter = text.get(place);
      switch (letter) {
        case 'y':
          place++;
          return readsDigit(text, 0) && readsDigit(text, 1) && readsNumber(text, 2) && readsEnd(text);
        case 'k':
          place++;
          return readsDigit(text, 0) && readsNumber(text, 1) && readsEnd(text);
        case 't':
          place++;
          return readsDigit(text, 0) && readsDigit(text, 1) && readsPerhapsDigit(text, 2) && readsEnd(text);
        default:
          return false;
      }
    }

    private boolean readsDigit(Shelf text, int slot) {
      int sign = text.get(place);
      if (sign < '0' || sign > '9') {
        return false;
      }
      set(numbers, slot, sign - '0');
      place++;
      return true;
    }

    private boolean readsPerhapsDigit(Shelf text, int slot) {
      if (!readsDigit(text, slot)) {
        set(numbers, slot, 0);
      }
      return true;
    }

    private boolean readsNumber(Shelf text, int slot) {
      if (!readsDigit(text, slot)) {
        return false;
      }
      int tens = at(numbers, slot);
      if (tens != 0 && readsDigit(text, slot)) {
        set(numbers, slot, TEN * tens + at(numbers, slot));
      }
      return true;
    }

    private boolean readsEnd(Shelf text) {
      if (text.get(place) != ';') {
        return false;
      }
      place++;
      return true;
    }

    private boolean takesStatement() {
      int first = at(numbers, 0);
      int second = at(numbers, 1);
      int third = at(numbers, 2);
      switch (letter) {
        case 'y': return takesWay(madeWay(first, wayCount, second, third));
        case 'k': return takesChild(first, second);
        default: return takesSaying(third, first, second);
      }
    }

    private boolean takesWay(Way way) {
      if (way == null || way.weight < 1 || wayCount < 0 || wayCount >= WAYS) {
        return false;
      }
      ways[wayCount] = way;
      wayCount++;
      return true;
    }

    private boolean takesChild(int way, int slips) {
      if (!hasWay(way) || slips > MOST_SLIPS || childCount >= CHILDREN) {
        return false;
      }
      set(held, childCount, way);
      set(heldFirst, childCount, way);
      set(slipping, childCount, slips);
      childCount++;
      return true;
    }

    private boolean takesSaying(int saying, int from, int to) {
      if (!hasWay(from) || !hasWay(to)) {
        return false;
      }
      set(sayings, saying * WAYS + from, to + 1);
      return true;
    }

    private static Way madeWay(int kind, int number, int figure, int weight) {
      switch (kind) {
        case 0: return new Way(kind, number, figure, weight);
        case 1: return new Turned(kind, number, figure, weight);
        case 2: return new Nought(kind, number, figure, weight);
        case 3: return new Given(kind, number, figure, weight);
        case 4: return new Across(kind, number, figure, weight);
        case 5: return new Zero(kind, number, figure, weight);
        case 6: return new Patched(kind, number, figure, weight);
        case 7: return new Topped(kind, number, figure, weight);
        default: return null;
      }
    }
  }

  /** Holds nothing, a way, or a row; the row's elements stay with the shelf and are used again. */
  private static final class Shelf {
    Way way;
    int sort = NO_ROW;
    int size;
    final int[] elements = new int[ELEMENTS];

    boolean isEmpty() {
      return way == null && sort == NO_ROW;
    }

    int rowRefusal() {
      if (isEmpty()) {
        return EMPTY;
      }
      return sort == NO_ROW ? OTHER_KIND : NO_REFUSAL;
    }

    int sortRefusal(int wanted) {
      int refusal = rowRefusal();
      return refusal == NO_REFUSAL && sort != wanted ? OTHER_KIND : refusal;
    }

    /** Why there is no way to be had, where there is none. */
    int wayRefusal() {
      return isEmpty() ? EMPTY : OTHER_KIND;
    }

    void takeWay(Way taken) {
      way = taken;
      sort = NO_ROW;
      size = 0;
    }

    void takeRow(int newSort, int newSize) {
      way = null;
      sort = newSort;
      size = newSize;
      for (int i = 0; i < elements.length; i++) {
        elements[i] = 0;
      }
    }

    boolean hasPlace(int i) {
      return i >= 0 && i < size;
    }

    boolean hasPlaces(int from, int n) {
      return from >= 0 && n >= 0 && from <= size && n <= size - from;
    }

    /** Element i; 0 beyond the last, which is no sign of a text. */
    int get(int i) {
      return hasPlace(i) ? at(elements, i) : 0;
    }

    void store(int i, int v) {
      if (hasPlace(i)) {
        set(elements, i, sort == BYTES ? (byte) v : sort == SHORTS ? (short) v : v);
      }
    }

    int leastOfSort() {
      return sort == BYTES ? -128 : sort == SHORTS ? -32768 : -2147483648;
    }
  }
}
