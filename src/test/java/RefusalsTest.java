/** The order of refusals: for each call all ways of being wrong at once; the first as told at the call is due. */
public final class RefusalsTest {
  private static final Check CHECK = new Check("RefusalsTest");
  private static final int LEAST = -2147483648;
  private static final int GREATEST = 2147483647;

  // Shelf 0 nothing, 1 a way, 2 bytes, 3 shorts, 4 a sheet of two sums, 5 its answers, 6 one int, 7 three ints.
  private static final int[] SHELVES = {-1, 8, LEAST, GREATEST, 0, 1, 2, 3, 4, 5, 6, 7};
  private static final int[] AS_SHEET = {-11, -12, -12, -12, 0, -13, -13, -13};
  private static final int[] AS_ANSWERS = {-11, -12, -12, -12, -13, 0, -13, -13};
  private static final int[] NO_WAYS = {-1, 1, LEAST, GREATEST};
  private static final int[] NO_BITS = {-1, 2, 3, 1024, LEAST, GREATEST};
  private static final int[] NEITHER_0_NOR_1 = {-1, 2, LEAST, GREATEST};

  public static void main(String[] args) {
    for (int d : SHELVES) {
      ofTheSheet(school(), d);
      for (int e : SHELVES) {
        // No object is used for more than 512 calls.
        OwnWays x = school();
        ofBoth(x, d, e);
        for (int f : SHELVES) {
          copied(x, d, e, f);
        }
      }
    }
    judge();
    group();
    copy();
    shelves();
    element();
    rowsAndKeeping();
    noClassAtAll();
    CHECK.end();
  }

  private static OwnWays school() {
    OwnWays x = Check.classOf("y001;k00;");
    x.keep(0, 0, 0);
    x.keep(1, 1, 0);
    Check.fill(x, 2, 0, 42, 17, 61, 48);
    Check.fill(x, 3, 1, 42, 17, 61, 48);
    Check.ints(x, 4, 42, 17, 61, 48);
    Check.ints(x, 5, 13, 25);
    Check.ints(x, 6, 9);
    Check.ints(x, 7, 5, 3, 9);
    return x;
  }

  private static boolean isShelf(int d) {
    return d >= 0 && d <= 7;
  }

  private static int sheet(int d) {
    return isShelf(d) ? AS_SHEET[d] : -1;
  }

  private static int answers(int e) {
    return isShelf(e) ? AS_ANSWERS[e] : -1;
  }

  private static int first(int... refusals) {
    for (int refusal : refusals) {
      if (refusal != 0) {
        return refusal;
      }
    }
    return 0;
  }

  private static void due(String call, int got, int refusal) {
    if (refusal != 0) {
      CHECK.due(call, got, refusal);
    } else {
      CHECK.holds(call + " is refused: " + got, got >= 0);
    }
  }

  private static void ofTheSheet(OwnWays x, int d) {
    int due = sheet(d);
    due("P17 most of " + d, x.most(d, 1), due);
    due("P18 apart of " + d, x.apart(d, 1, 0), due);
    due("P19 never of " + d, x.never(d, 1), due);
    due("P20 luck of " + d, x.luck(0, d, 0), due);
    due("P23 day of " + d, school().day(0, d, 5, 1), due);
    if (due != 0) {
      due("P25 bestSaying of " + d, x.bestSaying(d), due);
    } else {
      CHECK.due("P25 none is best", x.bestSaying(d), -4);
    }
    for (int no : NO_BITS) {
      CHECK.due("P17 -1 ahead of the sheet " + d, x.most(d, no), -1);
      CHECK.due("P18 -1 ahead of the sheet " + d, x.apart(d, no, 0), -1);
      CHECK.due("P19 -1 ahead of the sheet " + d, x.never(d, no), -1);
    }
    for (int no : NEITHER_0_NOR_1) {
      CHECK.due("P18 what " + no + ", " + d, x.apart(d, 1, no), -1);
      CHECK.due("P20 what " + no + ", " + d, x.luck(0, d, no), -1);
    }
    for (int no : NO_WAYS) {
      CHECK.due("P20 way " + no + ", " + d, x.luck(no, d, 0), -1);
      CHECK.due("P23 child " + no + ", " + d, x.day(no, d, 5, 1), -1);
    }
    for (int e : SHELVES) {
      if (!isShelf(e)) {
        CHECK.due("P23 shelf " + e + " ahead of the sheet " + d, x.day(0, d, e, 1), -1);
      }
    }
  }

  private static void ofBoth(OwnWays x, int d, int e) {
    int due = first(sheet(d), answers(e));
    String of = " of " + d + " and " + e;
    due("P12 slip" + of, x.slip(0, d, e), due);
    due("P13 fits" + of, x.fits(d, e, 12), due);
    due("P14 likely" + of, x.likely(d, e), due);
    due("P15 odds" + of, x.odds(0, d, e, 0), due);
    due("P30 lacks" + of, x.lacks(d, e), due);
    // The answers to hand fit no way: -4 is what held answers then.
    CHECK.due("P16 held" + of, x.held(d, e, 0, 0, 0), due == 0 ? -4 : due);
    for (int no : NO_WAYS) {
      CHECK.due("P12 way " + no + of, x.slip(no, d, e), -1);
      CHECK.due("P15 way " + no + of, x.odds(no, d, e, 0), -1);
    }
    int[] noCounts = {-1, 13, LEAST, GREATEST};
    for (int no : noCounts) {
      CHECK.due("P13 n " + no + of, x.fits(d, e, no), -1);
    }
    for (int no : NEITHER_0_NOR_1) {
      CHECK.due("P15 part " + no + of, x.odds(0, d, e, no), -1);
      CHECK.due("P16 part " + no + of, x.held(d, e, 0, 0, no), -1);
    }
    int[] noSums = {-1, 1, 420043, 100000000, LEAST, GREATEST};
    for (int no : noSums) {
      CHECK.due("P16 sum " + no + of, x.held(d, e, no, 0, 0), -1);
    }
    int[] noAnswers = {-1, 10000, LEAST, GREATEST};
    for (int no : noAnswers) {
      CHECK.due("P16 answer " + no + of, x.held(d, e, 0, no, 0), -1);
    }
  }

  private static void copied(OwnWays x, int d, int e, int f) {
    String of = " of " + d + ", " + e + ", " + f;
    int due = first(sheet(d), answers(e), answers(f));
    due("P31 copied" + of, x.copied(d, e, f, 0), due);
    due("P31 rare" + of, x.copied(d, e, f, 1), due);
    for (int no : NEITHER_0_NOR_1) {
      CHECK.due("P31 what " + no + of, x.copied(d, e, f, no), -1);
    }
  }

  private static void judge() {
    OwnWays x = school();
    int[] asRow = {-11, -12, 0, 0, 0, -13, -13, 0};
    for (int d : SHELVES) {
      int due = isShelf(d) ? asRow[d] : -1;
      due("P32 judge of " + d, x.judge(0, d), due);
      for (int no : NO_WAYS) {
        CHECK.due("P32 way " + no + ", " + d, x.judge(no, d), -1);
      }
    }
  }

  private static void group() {
    int[] asText = {-11, -12, -1000, -12, -12, -12, -12, -12};
    for (int d : SHELVES) {
      CHECK.due("P2 group of " + d, school().group(d), isShelf(d) ? asText[d] : -1);
    }
  }

  private static int copyRefusal(int d, int e, boolean isPlace) {
    if (!isShelf(d) || !isShelf(e)) {
      return -1;
    }
    if (d == 0 || e == 0) {
      return -11;
    }
    int[] sorts = {-1, -1, 0, 1, 2, 2, 2, 2};
    if (sorts[d] < 0 || sorts[d] != sorts[e]) {
      return -12;
    }
    return isPlace ? 0 : -13;
  }

  private static void copy() {
    // All rows have one element at least, and four at most.
    int[][] noPlaces = {{-1, 0, 1}, {0, -1, 1}, {0, 0, -1}, {4, 0, 1}, {0, 4, 1}, {0, 0, 5}, {1, 1, 4}, {LEAST, 0, 1},
      {0, LEAST, 1}, {0, 0, LEAST}, {GREATEST, 0, 1}, {0, GREATEST, 1}, {0, 0, GREATEST}, {GREATEST, GREATEST, GREATEST},
      {1, 0, GREATEST}, {0, 1, GREATEST}, {LEAST, LEAST, LEAST}};
    for (int d : SHELVES) {
      OwnWays x = school();
      for (int e : SHELVES) {
        String of = "P40 copy of " + d + " to " + e;
        due(of, x.copy(d, 0, e, 0, 1), copyRefusal(d, e, true));
        for (int[] no : noPlaces) {
          CHECK.due(of + " from " + no[0] + " to " + no[1] + ", " + no[2], x.copy(d, no[0], e, no[1], no[2]),
              copyRefusal(d, e, false));
        }
      }
    }
  }

  private static void shelves() {
    int[] asRow = {-11, -12, 0, 0, 0, 0, 0, 0};
    int[] asWay = {-11, 0, -12, -12, -12, -12, -12, -12};
    int[] sizes = {0, 0, 4, 4, 4, 2, 1, 3};
    OwnWays x = school();
    for (int d : SHELVES) {
      int row = isShelf(d) ? asRow[d] : -1;
      int way = isShelf(d) ? asWay[d] : -1;
      CHECK.due("P41 cost of " + d, x.cost(d), way);
      // The way to hand has figure 0: it has no failure.
      CHECK.due("P42 toss of " + d, x.toss(d), way == 0 ? -15 : way);
      CHECK.due("P38 put to " + d, x.put(d, 0, 1), row);
      int[] noPlaces = {-1, isShelf(d) ? sizes[d] : 0, 100, LEAST, GREATEST};
      for (int no : noPlaces) {
        CHECK.due("P38 put to " + d + ", place " + no, x.put(d, no, 1), row == 0 ? -13 : row);
      }
    }
  }

  private static void element() {
    OwnWays x = school();
    int[] places = {-1, 4, 100, LEAST, GREATEST};
    for (int d : SHELVES) {
      boolean isRow = isShelf(d) && d > 1;
      CHECK.due("P39 element of " + d, Check.thrownByElement(x, d, 0), !isShelf(d) ? 1 : isRow ? 0 : 2);
      for (int i : places) {
        CHECK.due("P39 element of " + d + ", place " + i, Check.thrownByElement(x, d, i), isShelf(d) ? 2 : 1);
      }
    }
  }

  private static void rowsAndKeeping() {
    int[] sorts = {-1, 3, LEAST, GREATEST, 0, 1, 2};
    int[] sizes = {-1, LEAST, 101, GREATEST, 0, 1, 100};
    int[] whats = {-1, 2, LEAST, GREATEST, 0, 1};
    int[] ways = {-1, 1, 10, LEAST, GREATEST, 0};
    for (int d : SHELVES) {
      OwnWays x = school();
      for (int sort : sorts) {
        for (int n : sizes) {
          boolean isTold = isShelf(d) && sort >= 0 && sort <= 2 && n <= 100;
          CHECK.due("P37 row " + d + ", " + sort + ", " + n, x.row(d, sort, n), !isTold ? -1 : n < 0 ? -14 : 0);
        }
      }
      for (int what : whats) {
        for (int k : ways) {
          boolean isTold = isShelf(d) && (what == 0 || what == 1 && k == 0);
          CHECK.due("P36 keep " + d + ", " + what + ", " + k, x.keep(d, what, k), isTold ? 0 : -1);
        }
      }
    }
  }

  /** What needs a way or a child is -1 in a new object, whatever the shelves hold; -4 comes behind all refusals. */
  private static void noClassAtAll() {
    OwnWays x = new OwnWays();
    CHECK.due("P12 ahead of -11", x.slip(0, 4, 5), -1);
    CHECK.due("P15 ahead of -11", x.odds(0, 4, 5, 0), -1);
    CHECK.due("P20 ahead of -11", x.luck(0, 4, 0), -1);
    CHECK.due("P23 ahead of -11", x.day(0, 4, 5, 1), -1);
    CHECK.due("P32 ahead of -11", x.judge(0, 4), -1);
    CHECK.due("P17 no bits told", x.most(4, 0), -11);
    CHECK.due("P17 a bit ahead of -11", x.most(4, 1), -1);
    CHECK.due("P14 -11 ahead of no ways", x.likely(4, 5), -11);
    CHECK.due("P30 -11 ahead of no ways", x.lacks(4, 5), -11);
    CHECK.due("P16 -11 ahead of none fits", x.held(4, 5, 0, 0, 0), -11);
    CHECK.due("P25 -11 ahead of none better", x.bestSaying(4), -11);
    CHECK.due("P26 -1 ahead of no children", x.weeks(21, 0, 0, 0), -1);
    CHECK.due("P26 no children", x.weeks(20, 0, 0, 0), -3);
    x.row(4, 2, 26);
    CHECK.due("P17 thirteen sums ahead of no sums", x.most(4, 0), -13);
    x.row(4, 2, 2);
    CHECK.due("P14 the answers' -1 ahead of no ways", x.likely(4, 8), -1);
    CHECK.due("P14 the answers' -11 ahead of no ways", x.likely(4, 5), -11);
    CHECK.due("P14 the answers' -13 ahead of no ways", x.likely(4, 4), -13);
    CHECK.due("P30 the answers' -13 ahead of no ways", x.lacks(4, 4), -13);
    CHECK.due("P16 the answers' -13 ahead of none fits", x.held(4, 4, 0, 0, 0), -13);
  }
}
