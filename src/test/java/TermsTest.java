import java.math.BigInteger;

/** The sentences under "Terms" that name an edge: one method a sentence, in the document's order. */
public final class TermsTest {
  private static final Check CHECK = new Check("TermsTest");
  private static final String EIGHT_KINDS = "y001;y101;y201;y331;y401;y501;y621;y731;";
  private static final String TEN_WAYS = EIGHT_KINDS + "y601;y611;";
  private static final int LEAST = -2147483648;
  private static final int GREATEST = 2147483647;

  public static void main(String[] args) {
    groupOne();
    groupTwo();
    groupThree();
    CHECK.end();
  }

  // ---- group 1: sums, ways, children, sheets, shelves

  private static void groupOne() {
    sumsAreFrom0To9999();
    columnsAreFrom0To3();
    waysAre0To9();
    kindsFiguresWeights();
    equalDigitsAreNotStuck();
    theUpperDigitIsAsItIsThen();
    noughtsBetweenBecomeNines();
    noughtsBetweenStayNoughts();
    noSuchColumnWrites0();
    zeroOnlyWhereTheUpperDigitIs0();
    patchedByTheNextColumn();
    patchedByFigureModulo4();
    toppedInTheLastColumn();
    costsAtTheEdges();
    childrenAre0To7();
    sheetsHold12Sums();
    leftOutIsMinus1Alone();
    shelvesAre0To7AndEmptyAtFirst();
    rowsHold0To100Elements();
    lowestBitsAreKept();
  }

  private static void sumsAreFrom0To9999() {
    OwnWays x = Check.classOf("y001;");
    CHECK.due("the least sum", x.work(0, 0, 0), 0);
    CHECK.due("the greatest A", x.work(0, 9999, 0), 9999);
    CHECK.due("the greatest B", x.work(0, 9999, 9999), 0);
    CHECK.due("B as much as A", x.work(0, 507, 507), 0);
    CHECK.due("B one more than A", x.work(0, 507, 508), -1);
    CHECK.due("A one too great", x.work(0, 10000, 0), -1);
    CHECK.due("both one too great", x.work(0, 10000, 10000), -1);
    CHECK.due("B below 0", x.work(0, 0, -1), -1);
    CHECK.due("both below 0", x.work(0, -1, -1), -1);
    CHECK.due("the greatest ints", x.work(0, GREATEST, GREATEST), -1);
    CHECK.due("the least ints", x.work(0, LEAST, LEAST), -1);
    CHECK.due("A greatest, B least", x.work(0, GREATEST, LEAST), -1);
  }

  private static void columnsAreFrom0To3() {
    OwnWays x = Check.classOf("y001;");
    for (int c = 0; c < 4; c++) {
      CHECK.due("units first " + c, x.column(0, 4321, 0, c, 0), c + 1);
      CHECK.due("noughts ahead " + c, x.column(0, 1, 0, c, 0), c == 0 ? 1 : 0);
    }
    CHECK.due("column -1", x.column(0, 4321, 0, -1, 0), -1);
    CHECK.due("column 4", x.column(0, 4321, 0, 4, 0), -1);
  }

  private static void waysAre0To9() {
    OwnWays x = Check.classOf(TEN_WAYS);
    CHECK.due("ten of them", x.count(0), 10);
    for (int w = 0; w < 10; w++) {
      CHECK.due("as they come " + w, x.way(w, 0), w < 8 ? w : 6);
    }
    CHECK.due("no room", Check.group(x, "y001;"), -2000);
    CHECK.due("ten still", x.count(0), 10);
    CHECK.due("bits of all ten", x.parts(88, 11, 1023), 1);
    CHECK.due("a bit beyond", x.parts(88, 11, 1024), -1);
  }

  private static void kindsFiguresWeights() {
    CHECK.due("kind 8", Check.group(new OwnWays(), "y801;"), -2000);
    CHECK.due("weight 0", Check.group(new OwnWays(), "y000;"), -2000);
    OwnWays x = Check.classOf("y001;y7999;");
    CHECK.due("figure 0", x.way(0, 1), 0);
    CHECK.due("weight 1", x.way(0, 2), 1);
    CHECK.due("kind 7", x.way(1, 0), 7);
    CHECK.due("figure 9", x.way(1, 1), 9);
    CHECK.due("weight 99", x.way(1, 2), 99);
  }

  private static void equalDigitsAreNotStuck() {
    OwnWays x = Check.classOf(EIGHT_KINDS);
    for (int w = 0; w < 8; w++) {
      for (int c = 0; c < 4; c++) {
        CHECK.due("equal in column " + c + " by " + w, x.column(w, 5555, 5555, c, 1), 0);
      }
      CHECK.due("one more by " + w, x.column(w, 5565, 5556, 0, 1), 1);
      CHECK.due("one less by " + w, x.column(w, 5565, 5554, 0, 1), 0);
    }
  }

  private static void theUpperDigitIsAsItIsThen() {
    OwnWays x = Check.classOf("y001;y331;");
    CHECK.due("stuck where one was taken", x.column(0, 153, 54, 1, 1), 1);
    CHECK.due("the answer", x.work(0, 153, 54), 99);
    CHECK.due("not where nobody gave", x.column(1, 153, 54, 1, 1), 0);
    CHECK.due("its answer", x.work(1, 153, 54), 109);
  }

  private static void noughtsBetweenBecomeNines() {
    OwnWays x = Check.classOf("y001;");
    CHECK.due("nines", x.work(0, 1000, 1), 999);
    CHECK.due("a nine under a nine isn't stuck", x.column(0, 1000, 991, 1, 1), 0);
    CHECK.due("nines alone that lie between", x.work(0, 2100, 1), 2099);
    CHECK.due("the answer", x.work(0, 1000, 991), 9);
  }

  private static void noughtsBetweenStayNoughts() {
    OwnWays x = Check.classOf("y401;");
    CHECK.due("noughts", x.work(0, 1000, 1), 9);
    CHECK.due("a nought under a nine is stuck", x.column(0, 1000, 991, 1, 1), 1);
    CHECK.due("no nought between", x.work(0, 2110, 1), 2109);
  }

  private static void noSuchColumnWrites0() {
    OwnWays x = Check.classOf("y401;");
    CHECK.due("in column 1", x.column(0, 1000, 991, 1, 0), 0);
    CHECK.due("in column 2", x.column(0, 1000, 991, 2, 0), 0);
    CHECK.due("stuck in the last column", x.column(0, 1105, 1096, 3, 1), 1);
    CHECK.due("0 in the last column", x.column(0, 1105, 1096, 3, 0), 0);
    CHECK.due("the answer", x.work(0, 1105, 1096), 19);
  }

  private static void zeroOnlyWhereTheUpperDigitIs0() {
    OwnWays x = Check.classOf("y501;");
    CHECK.due("0", x.work(0, 20, 5), 25);
    CHECK.due("1", x.work(0, 21, 5), 16);
    CHECK.due("0 since one was taken", x.work(0, 2103, 1994), 1909);
    CHECK.due("0 that has become 9", x.work(0, 5002, 3), 4999);
  }

  private static void patchedByTheNextColumn() {
    OwnWays x = Check.classOf("y631;");
    CHECK.due("1 is above 0", x.work(0, 113, 5), 108);
    CHECK.due("0 isn't", x.work(0, 103, 5), 105);
    CHECK.due("nothing is taken then", x.work(0, 1103, 1005), 105);
    CHECK.due("one is taken else", x.column(0, 1113, 1015, 1, 1), 1);
  }

  private static void patchedByFigureModulo4() {
    OwnWays x = Check.classOf("y601;y611;y621;y631;y641;y651;y661;y671;y681;y691;");
    int[] due = {100, 102, 108, 105};
    for (int figure = 0; figure < 10; figure++) {
      CHECK.due("figure " + figure, x.work(figure, 103, 5), due[figure % 4]);
    }
  }

  /** In the last column no TOPPED way is ever STUCK, since A is no less than B and nobody takes: as a GIVEN, then. */
  private static void toppedInTheLastColumn() {
    OwnWays x = Check.classOf("y331;y731;");
    int[][] sums = {{1105, 1096}, {9000, 8999}, {5203, 1746}, {2000, 1999}, {9999, 9999}, {7070, 6161}};
    for (int[] s : sums) {
      CHECK.due("as a GIVEN " + s[0], x.work(1, s[0], s[1]), x.work(0, s[0], s[1]));
      CHECK.due("not stuck in the last " + s[0], x.column(1, s[0], s[1], 3, 1), 0);
    }
  }

  private static void costsAtTheEdges() {
    OwnWays x = Check.classOf("y091;y191;y291;y301;y391;y491;y501;y591;y601;y691;");
    int[] due = {0, 8, 5, 0, 9, 12, 4, 4, 12, 21};
    for (int w = 0; w < 10; w++) {
      CHECK.due("cost of " + w, x.way(w, 3), due[w]);
    }
    x = Check.classOf("y701;y791;");
    CHECK.due("topped, figure 0", x.way(0, 3), 1);
    CHECK.due("topped, figure 9", x.way(1, 3), 19);
  }

  private static void childrenAre0To7() {
    OwnWays x = Check.classOf("y001;k00;k01;k02;k03;k04;k05;k06;k050;");
    for (int c = 0; c < 8; c++) {
      CHECK.due("as they come " + c, x.child(c, 1), c < 7 ? c : 50);
    }
    CHECK.due("a ninth isn't", x.child(8, 1), -1);
    CHECK.due("no room", Check.group(x, "k00;"), -2000);
    CHECK.due("51 hundredths", Check.group(Check.classOf("y001;"), "k051;"), -2000);
  }

  private static void sheetsHold12Sums() {
    OwnWays x = Check.classOf("y001;k00;");
    int[] sizes = {0, 2, 22, 24};
    for (int n : sizes) {
      x.row(4, 2, n);
      CHECK.due("so many elements " + n, x.luck(0, 4, 1), n / 2);
    }
    int[] none = {1, 3, 23, 25, 26, 100};
    for (int n : none) {
      x.row(4, 2, n);
      CHECK.due("no sheet of so many " + n, x.luck(0, 4, 1), -13);
    }
  }

  private static void leftOutIsMinus1Alone() {
    OwnWays x = Check.classOf("y001;");
    Check.ints(x, 4, 42, 17, 42, 17, 42, 17, 42, 17, 42, 17);
    Check.ints(x, 5, -1, -2, LEAST, GREATEST, 25);
    CHECK.due("three aren't its own", x.slip(0, 4, 5), 3);
    CHECK.due("nobody has copied what is left out", x.copied(4, 5, 5, 0), 3);
  }

  private static void shelvesAre0To7AndEmptyAtFirst() {
    OwnWays x = new OwnWays();
    for (int d = 0; d < 8; d++) {
      CHECK.due("nothing held " + d, x.toss(d), -11);
      CHECK.due("no element " + d, Check.thrownByElement(x, d, 0), 2);
      CHECK.due("no text " + d, x.group(d), -11);
      CHECK.due("no sheet " + d, x.bestSaying(d), -11);
    }
    int[] none = {-1, 8, LEAST, GREATEST};
    for (int d : none) {
      CHECK.due("no shelf " + d, x.row(d, 0, 1), -1);
      CHECK.due("no element of it " + d, Check.thrownByElement(x, d, 0), 1);
    }
  }

  private static void rowsHold0To100Elements() {
    OwnWays x = new OwnWays();
    CHECK.due("0", x.row(0, 0, 0), 0);
    CHECK.due("no first", Check.thrownByElement(x, 0, 0), 2);
    CHECK.due("100", x.row(0, 2, 100), 0);
    for (int i = 0; i < 100; i++) {
      CHECK.due("0 at first " + i, x.element(0, i), 0);
    }
    CHECK.due("no more", Check.thrownByElement(x, 0, 100), 2);
    CHECK.due("101", x.row(0, 2, 101), -1);
    CHECK.due("the greatest", x.row(0, 2, GREATEST), -1);
    CHECK.due("-1", x.row(0, 2, -1), -14);
    CHECK.due("the least", x.row(0, 2, LEAST), -14);
    CHECK.due("the 100 are there still", x.put(0, 99, 1), 0);
  }

  private static void lowestBitsAreKept() {
    OwnWays x = new OwnWays();
    int[] put = {127, 128, 255, 256, -128, -129, 32767, 32768, 65535, 65536, -32768, -32769, GREATEST, LEAST};
    int[] bytes = {127, -128, -1, 0, -128, 127, -1, 0, -1, 0, 0, -1, -1, 0};
    int[] shorts = {127, 128, 255, 256, -128, -129, 32767, -32768, -1, 0, -32768, 32767, -1, 0};
    for (int sort = 0; sort < 3; sort++) {
      Check.fill(x, sort, sort, put);
      for (int i = 0; i < put.length; i++) {
        int due = sort == 0 ? bytes[i] : sort == 1 ? shorts[i] : put[i];
        CHECK.due("sort " + sort + " of " + put[i], x.element(sort, i), due);
      }
    }
  }

  // ---- group 2: a class read from bytes

  private static void groupTwo() {
    anEmptyTextIsNoClass();
    numbersHave1Or2Digits();
    no0AheadOfAnother();
    perhapsADigit();
    toldAgainItTakesThePlace();
    tooEarlyIsFaultAtTheSize();
    faultsAtTheFarthestPlaces();
    aWayMustBeThereByThen();
    kind1GoesAheadOfKind2();
    theFirstThatIsNotAsTold();
    allOfItOrNothing();
  }

  private static void faultOf(String text, int due) {
    CHECK.due("the text " + text, Check.group(new OwnWays(), text), due);
  }

  private static void anEmptyTextIsNoClass() {
    faultOf("", -1000);
    OwnWays x = Check.classOf("y001;");
    CHECK.due("nor where there is one", Check.group(x, ""), -1000);
  }

  private static void numbersHave1Or2Digits() {
    faultOf("y00;", -1003);
    faultOf("y001;", 1);
    faultOf("y0010;", 1);
    faultOf("y0099;", 1);
    faultOf("y00100;", -1005);
    faultOf("y001;k0;", -1007);
    faultOf("y001;k00;", 2);
    faultOf("y001;k050;", 2);
    faultOf("y001;k0500;", -1009);
  }

  private static void no0AheadOfAnother() {
    faultOf("y000;", -2000);
    faultOf("y0000;", -1004);
    faultOf("y0001;", -1004);
    faultOf("y001;k005;", -1008);
    faultOf("y001;k000;", -1008);
  }

  private static void perhapsADigit() {
    OwnWays x = Check.classOf("y001;y101;t10;t109;");
    CHECK.due("0 at first", x.told(0, 1), 0);
    CHECK.due("9", x.told(9, 1), 0);
    CHECK.due("none between", x.told(1, 1), 1);
    x = Check.classOf("y001;y101;t100;");
    CHECK.due("0 told", x.told(0, 1), 0);
    faultOf("y001;t001", -1009);
    faultOf("y001;t0010;", -1009);
  }

  private static void toldAgainItTakesThePlace() {
    OwnWays x = Check.classOf("y001;y101;y201;t104;t124;t014;");
    CHECK.due("the place is taken", x.told(4, 1), 2);
    CHECK.due("one saying and way is told once", x.count(5), 2);
    Check.group(x, "t114;");
    CHECK.due("it comes to hold itself", x.told(4, 1), 1);
    CHECK.due("that is told, too", x.count(5), 2);
  }

  private static void tooEarlyIsFaultAtTheSize() {
    String text = "y0012;k034;t009;";
    for (int size = 0; size < text.length(); size++) {
      char last = size == 0 ? ';' : text.charAt(size - 1);
      if (last != ';' || size == 0) {
        faultOf(text.substring(0, size), -1000 - size);
      }
    }
    faultOf("y0012;", 1);
    faultOf("y0012;k034;", 2);
    faultOf(text, 3);
  }

  private static void faultsAtTheFarthestPlaces() {
    String text = "y001;" + "t000;".repeat(18);
    faultOf(text + "t000;", 20);
    faultOf(text + "t000x", -1099);
    faultOf(text + "t0000", -1099);
    faultOf(text + "y0010", -1100);
    faultOf(text + "t010;", -2095);
    faultOf(text + "k051;", -2095);
    OwnWays x = Check.classOf("y001;");
    CHECK.due("the last of 25", Check.group(x, "t00;".repeat(24) + "t01;"), -2096);
    CHECK.due("all 25", Check.group(x, "t00;".repeat(25)), 25);
  }

  private static void aWayMustBeThereByThen() {
    faultOf("k00;y001;", -2000);
    faultOf("y001;k00;", 2);
    faultOf("y001;k10;y001;", -2005);
    faultOf("y001;t01;y001;", -2005);
    faultOf("y001;t10;y001;", -2005);
    faultOf("y001;y001;t01;t10;", 4);
    faultOf("y001;y001;k20;", -2010);
    OwnWays x = Check.classOf("y001;");
    CHECK.due("one that an earlier text made", Check.group(x, "k00;t00;"), 2);
  }

  private static void kind1GoesAheadOfKind2() {
    faultOf("y801;y00", -1008);
    faultOf("k99;k99;x", -1008);
    faultOf("y001;k90;t9", -1011);
  }

  private static void theFirstThatIsNotAsTold() {
    faultOf("y001;y801;y901;", -2005);
    faultOf("y001;t01;y801;", -2005);
    faultOf("y001;k051;k00;t01;", -2005);
    faultOf("y001;".repeat(10) + "y001;k90;", -2050);
  }

  private static void allOfItOrNothing() {
    OwnWays x = Check.classOf("y001;k00;");
    CHECK.due("a fault of kind 2 behind good ones", Check.group(x, "y105;k13;t10;t011;k20;"), -2018);
    CHECK.due("a fault of kind 1 behind good ones", Check.group(x, "y105;k13;t10;t011;k"), -1019);
    CHECK.due("no way", x.count(0), 1);
    CHECK.due("no child", x.count(1), 1);
    CHECK.due("no weight", x.count(3), 1);
    CHECK.due("no saying", x.count(5), 0);
    CHECK.due("without the fault", Check.group(x, "y105;k13;t10;t011;"), 4);
    CHECK.due("a way", x.count(0), 2);
    CHECK.due("a child", x.count(1), 2);
    CHECK.due("weights", x.count(3), 6);
    CHECK.due("sayings", x.count(5), 2);
  }

  // ---- group 3: slips, odds, days, weeks, sayings, judging

  private static void groupThree() {
    nineBecomesNoughtAndBack();
    drawsWrapAround();
    severalOfFewestSlips();
    oddsAtTheEdges();
    heldAtTheEdges();
    mostAndApartOfSeveral();
    pairsAtTheEdges();
    luckNeedsBeingStuck();
    clashIsMoreThanA();
    comesBelowN();
    weeksAtTheEdges();
    bestSayingMustBeBetterThanNone();
    kind0IsAside();
    alikeAndWrong();
    judgedAtTheEdges();
  }

  /** z times 1103515245 plus 12345, with as many bits as it takes, then cut to an int's 32. */
  private static int next(int z) {
    return BigInteger.valueOf(z).multiply(BigInteger.valueOf(1103515245)).add(BigInteger.valueOf(12345)).intValue();
  }

  private static int drawn(int z, int n) {
    long withoutSign = z >= 0 ? z : z + 2147483648L;
    return (int) (withoutSign / 65536 % n);
  }

  /** A seed by which a child with 50 SLIPS slips at once, in that column, so (0: 1 more, 1: 1 less). */
  private static int seedOfSlip(int column, int less) {
    for (int z = 0; z < 100000; z++) {
      int first = next(z);
      int second = next(first);
      if (drawn(first, 100) < 50 && drawn(second, 4) == column && drawn(next(second), 2) == less) {
        return z;
      }
    }
    throw new AssertionError();
  }

  private static void nineBecomesNoughtAndBack() {
    OwnWays x = Check.classOf("y001;k050;");
    int place = 1;
    for (int c = 0; c < 4; c++) {
      int more = seedOfSlip(c, 0);
      int less = seedOfSlip(c, 1);
      dayOfOne(x, "9 becomes 0 in " + c, 9999, more, 9999 - 9 * place);
      dayOfOne(x, "8 becomes 9 in " + c, 8888, more, 8888 + place);
      dayOfOne(x, "0 becomes 1 in " + c, 0, more, place);
      dayOfOne(x, "0 becomes 9 in " + c, 0, less, 9 * place);
      dayOfOne(x, "1 becomes 0 in " + c, 1111, less, 1111 - place);
      dayOfOne(x, "9 becomes 8 in " + c, 9999, less, 9999 - place);
      place *= 10;
    }
  }

  private static void dayOfOne(OwnWays x, String what, int a, int z, int due) {
    Check.ints(x, 4, a, 0);
    CHECK.due(what + ": slips", x.day(0, 4, 5, z), 1);
    CHECK.due(what, x.element(5, 0), due);
  }

  private static void drawsWrapAround() {
    OwnWays x = Check.classOf("y001;y101;k10;t10;");
    int[] seeds = {0, 1, -1, 2, 3, 77, 12345, -12345, 65535, 65536, 1 << 30, GREATEST, LEAST, LEAST + 1, GREATEST - 1};
    for (int z : seeds) {
      int draw = drawn(next(z), 100);
      CHECK.due("not below what is drawn by " + z, x.weeks(1, draw, 0, z), 0);
      CHECK.due("below one more by " + z, x.weeks(1, draw + 1, 0, z), 1);
    }
  }

  private static void severalOfFewestSlips() {
    OwnWays x = Check.classOf("y009;y208;y009;y107;");
    Check.ints(x, 4, 88, 11);
    Check.ints(x, 5, 77);
    CHECK.due("the greatest weight, the least", x.likely(4, 5), 0);
    Check.ints(x, 4, 42, 17);
    Check.ints(x, 5, 35);
    CHECK.due("fewer slips go ahead of weight", x.likely(4, 5), 3);
    x.row(4, 2, 0);
    x.row(5, 2, 0);
    CHECK.due("no sums: by weight", x.likely(4, 5), 0);
    CHECK.due("no sums: all fit", x.fits(4, 5, 0), 15);
    OwnWays none = new OwnWays();
    none.row(4, 2, 0);
    CHECK.due("no ways", none.likely(4, 4), -4);
    CHECK.due("no ways lack nothing that can be told", none.lacks(4, 4), -4);
  }

  private static void oddsAtTheEdges() {
    OwnWays x = Check.classOf("y0099;y2099;");
    int[] sums = new int[24];
    int[] answers = new int[12];
    for (int s = 0; s < 12; s++) {
      sums[2 * s] = 42;
      sums[2 * s + 1] = 17;
      answers[s] = 25;
    }
    Check.ints(x, 4, sums);
    Check.ints(x, 5, answers);
    CHECK.due("no slips, above", x.odds(0, 4, 5, 0), 4096);
    CHECK.due("no slips, below", x.odds(0, 4, 5, 1), 4097);
    CHECK.due("twelve slips, above", x.odds(1, 4, 5, 0), 1);
    CHECK.due("twelve slips, below", x.odds(1, 4, 5, 1), 4097);
    OwnWays one = Check.classOf("y0099;");
    one.row(4, 2, 0);
    CHECK.due("one way alone, above", one.odds(0, 4, 4, 0), 1);
    CHECK.due("one way alone, below", one.odds(0, 4, 4, 1), 1);
    OwnWays ten = Check.classOf("y0099;".repeat(10));
    ten.row(4, 2, 0);
    CHECK.due("ten of the greatest, below", ten.odds(9, 4, 4, 1), 10);
  }

  private static void heldAtTheEdges() {
    OwnWays x = Check.classOf("y0099;y1099;");
    Check.ints(x, 4, 42, 17);
    Check.ints(x, 5, 24);
    CHECK.due("one slip is none that fits", x.held(4, 5, 880011, 77, 0), -4);
    CHECK.due("below the line, too", x.held(4, 5, 880011, 77, 1), -4);
    Check.ints(x, 5, 35);
    CHECK.due("it comes by all, above", x.held(4, 5, 880011, 77, 0), 1);
    CHECK.due("it comes by all, below", x.held(4, 5, 880011, 77, 1), 1);
    CHECK.due("it comes by none, above", x.held(4, 5, 880011, 78, 0), 0);
    CHECK.due("it comes by none, below", x.held(4, 5, 880011, 78, 1), 1);
    CHECK.due("the least sum", x.held(4, 5, 0, 0, 0), 1);
    CHECK.due("the greatest sum", x.held(4, 5, 99999999, 0, 0), 1);
    CHECK.due("A beyond", x.held(4, 5, 100000000, 0, 0), -1);
    CHECK.due("B more than A", x.held(4, 5, 9999, 0, 0), -1);
    CHECK.due("below 0", x.held(4, 5, -1, 0, 0), -1);
    CHECK.due("answer 10000", x.held(4, 5, 0, 10000, 0), -1);
    CHECK.due("answer -1", x.held(4, 5, 0, -1, 0), -1);
    OwnWays none = new OwnWays();
    none.row(4, 2, 0);
    CHECK.due("no ways: none fits", none.held(4, 4, 0, 0, 0), -4);
  }

  private static void mostAndApartOfSeveral() {
    OwnWays x = Check.classOf("y001;y101;y401;");
    // The first and the third part turned about from the others; the second and the fourth part across from rightly.
    Check.ints(x, 4, 42, 17, 300, 287, 52, 17, 400, 387);
    CHECK.due("most: of several the first", x.most(4, 3), 0);
    CHECK.due("apart: of several the least", x.apart(4, 3, 1), 1);
    CHECK.due("apart: one is enough", x.apart(4, 3, 0), 1);
    CHECK.due("no ways told: none needed", x.apart(4, 0, 0), 0);
    CHECK.due("no ways told: none taken", x.apart(4, 0, 1), 0);
    CHECK.due("no ways told: the first parts most", x.most(4, 0), 0);
    int[] ten = new int[20];
    ten[18] = 42;
    ten[19] = 17;
    Check.ints(x, 4, ten);
    CHECK.due("apart: the tenth alone", x.apart(4, 3, 1), 512);
    x.row(4, 2, 22);
    CHECK.due("apart: eleven sums", x.apart(4, 3, 1), -13);
    CHECK.due("most: eleven sums", x.most(4, 3), 0);
    x.row(4, 2, 0);
    CHECK.due("most: no sums", x.most(4, 3), -4);
    CHECK.due("apart: no sums", x.apart(4, 3, 0), 0);
  }

  private static void pairsAtTheEdges() {
    OwnWays x = Check.classOf("y001;".repeat(10));
    x.row(4, 2, 24);
    CHECK.due("all pairs of ten", x.never(4, 1023), 45);
    CHECK.due("one pair", x.never(4, 513), 1);
    CHECK.due("one way", x.never(4, 512), 0);
    CHECK.due("no way", x.never(4, 0), 0);
    x.row(4, 2, 0);
    CHECK.due("no sums part none", x.never(4, 1023), 45);
    OwnWays all = Check.classOf("y001;y101;");
    Check.ints(all, 4, 88, 11, 42, 17);
    CHECK.due("one sum that parts is enough", all.never(4, 3), 0);
  }

  private static void luckNeedsBeingStuck() {
    OwnWays x = Check.classOf("y001;y101;");
    Check.ints(x, 4, 88, 11, 0, 0, 50, 45, 15, 10);
    CHECK.due("stuck at 50 less 45 alone", x.luck(0, 4, 0), 1);
    CHECK.due("marks without being stuck, too", x.luck(0, 4, 1), 4);
    CHECK.due("turned about is wrong where it is stuck", x.luck(1, 4, 0), 0);
    CHECK.due("its marks", x.luck(1, 4, 1), 3);
    x.row(4, 2, 0);
    CHECK.due("no sums, no luck", x.luck(0, 4, 0), 0);
    CHECK.due("no sums, no marks", x.luck(0, 4, 1), 0);
  }

  private static void clashIsMoreThanA() {
    OwnWays x = Check.classOf("y101;y201;y601;");
    CHECK.due("10 less 1: 11", x.clash(0), 1001);
    CHECK.due("nought: as much as A at most", x.work(1, 10, 1), 10);
    CHECK.due("as much isn't more", x.clash(1), -4);
    CHECK.due("below 100 alone", x.clash(2), -4);
    CHECK.due("though the patch of 103 less 5 isn't more either", x.work(2, 103, 5), 100);
    OwnWays patched = Check.classOf("y621;");
    CHECK.due("100 less 1 would be more", patched.work(0, 100, 1), 109);
    CHECK.due("but A is below 100", patched.clash(0), -4);
  }

  private static void comesBelowN() {
    OwnWays x = Check.classOf("y101;");
    CHECK.due("n 1: 0 less 0 alone", x.comes(0, 1), 0);
    CHECK.due("n 10: 10 itself isn't below", x.comes(0, 10), 0);
    CHECK.due("n 11", x.comes(0, 11), 9);
    // Each A's ten above each B's ten has 45 pairs of units of which B's is the greater: 1, 2 and 3 times 45.
    CHECK.due("n 40", x.comes(0, 40), 270);
    CHECK.due("n 41", x.comes(0, 41), -1);
    CHECK.due("n 0", x.comes(0, 0), -1);
    CHECK.due("n least", x.comes(0, LEAST), -1);
  }

  private static void weeksAtTheEdges() {
    OwnWays x = Check.classOf("y001;y101;k10;k00;t10;");
    CHECK.due("p 0, q 0: as they are", x.weeks(20, 0, 0, 9), 1);
    CHECK.due("p 100: all come to hold it", x.weeks(1, 100, 0, 9), 2);
    CHECK.due("p 100, q 100: p goes ahead", x.weeks(1, 100, 100, 9), 2);
    x.say(0, 0);
    CHECK.due("q 0: nobody goes back", x.weeks(20, 0, 0, 9), 2);
    CHECK.due("q 100: all go back", x.weeks(1, 0, 100, 9), 1);
    CHECK.due("in mind alone", x.child(0, 0), 0);
    CHECK.due("n 1, the least", x.weeks(1, 0, 0, 9), 2);
    CHECK.due("n 0", x.weeks(0, 0, 0, 9), -1);
    CHECK.due("n 21", x.weeks(21, 0, 0, 9), -1);
    CHECK.due("no children", Check.classOf("y001;").weeks(1, 0, 0, 9), -3);
  }

  private static int best(String text, int... sheet) {
    OwnWays x = Check.classOf(text);
    Check.ints(x, 4, sheet);
    return x.bestSaying(4);
  }

  private static void bestSayingMustBeBetterThanNone() {
    CHECK.due("as good", best("y001;y001;k00;t01;", 42, 17), -4);
    CHECK.due("better by one mark", best("y001;y101;k10;t10;", 42, 17, 88, 11), 0);
    CHECK.due("of several the least", best("y001;y101;k10;t109;t108;", 42, 17), 8);
    CHECK.due("the last saying", best("y001;y101;k10;t109;", 42, 17), 9);
    CHECK.due("no children", best("y001;y101;t10;", 42, 17), -4);
    CHECK.due("no sums", best("y001;y101;k10;t10;"), -4);
    CHECK.due("no class", sayingOfNoClass(), -4);
  }

  private static int sayingOfNoClass() {
    OwnWays x = new OwnWays();
    Check.ints(x, 4, 42, 17);
    return x.bestSaying(4);
  }

  private static void kind0IsAside() {
    OwnWays x = Check.classOf("y001;y701;y101;k00;k00;k00;k10;k20;");
    CHECK.due("of several the least", x.greatest(), 1);
    CHECK.due("one kind", x.lesson(1), 1);
    CHECK.due("two kinds", x.lesson(2), 2);
    CHECK.due("three kinds, of which there are two", x.lesson(3), 2);
    CHECK.due("kind 0 can be asked", x.groups(0), 3);
    OwnWays rightly = Check.classOf("y001;k00;");
    CHECK.due("all rightly", rightly.greatest(), -4);
    CHECK.due("no lesson", rightly.lesson(1), 0);
    OwnWays none = new OwnWays();
    CHECK.due("no children", none.greatest(), -4);
    CHECK.due("no children, no lesson", none.lesson(1), 0);
  }

  private static void alikeAndWrong() {
    OwnWays x = Check.classOf("y001;y101;");
    Check.ints(x, 4, 42, 17, 42, 17, 42, 17, 42, 17, 42, 17);
    Check.ints(x, 5, 25, 35, 99, -1, 35);
    Check.ints(x, 6, 25, 35, 99, -1, 99);
    CHECK.due("right ones aren't, left out ones aren't", x.copied(4, 5, 6, 0), 2);
    CHECK.due("one comes by no way", x.copied(4, 5, 6, 1), 1);
    x.row(4, 2, 0);
    x.row(5, 2, 0);
    CHECK.due("no sums", x.copied(4, 5, 5, 0), 0);
    x.row(4, 2, 24);
    x.row(5, 2, 12);
    CHECK.due("twelve right ones", x.copied(4, 5, 5, 0), 0);
    for (int i = 0; i < 12; i++) {
      x.put(5, i, 1);
    }
    CHECK.due("twelve wrong ones", x.copied(4, 5, 5, 0), 12);
    CHECK.due("twelve rare ones", x.copied(4, 5, 5, 1), 12);
  }

  private static void judgedAtTheEdges() {
    OwnWays x = Check.classOf("y001;");
    int[] leasts = {-128, -32768, LEAST};
    for (int sort = 0; sort < 3; sort++) {
      String of = " of sort " + sort;
      int least = leasts[sort];
      Check.fill(x, 3, sort, 42);
      CHECK.due("one element" + of, x.judge(0, 3), -13);
      Check.fill(x, 3, sort, 42, 17);
      CHECK.due("nothing told" + of, x.judge(0, 3), -4);
      Check.fill(x, 3, sort, 42, 17, least, least, least, least);
      CHECK.due("all skipped" + of, x.judge(0, 3), -4);
      Check.fill(x, 3, sort, 42, 17, least + 1);
      CHECK.due("one more than the least isn't skipped" + of, x.judge(0, 3), 2);
      Check.fill(x, 3, sort, 42, 17, 5, 2, 0, 0);
      CHECK.due("all four so" + of, x.judge(0, 3), -4);
      Check.fill(x, 3, sort, 42, 17, 5, 2, 0, 1);
      CHECK.due("the fourth isn't" + of, x.judge(0, 3), 5);
      Check.fill(x, 3, sort, 42, 17, 5, 2, 0, 0, 0);
      CHECK.due("a fifth digit isn't" + of, x.judge(0, 3), 6);
      Check.fill(x, 3, sort, 42, 43, 5);
      CHECK.due("no sum" + of, x.judge(0, 3), -13);
      Check.fill(x, 3, sort, least, least, 0);
      CHECK.due("the least aren't skipped as a sum" + of, x.judge(0, 3), -13);
    }
  }
}
