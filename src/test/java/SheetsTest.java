/** Promises 12 to 22: sheets, and what was answered. */
public final class SheetsTest {
  private static final Check CHECK = new Check("SheetsTest");
  // Rightly (weight 10), turned about (20), nought (5), ten that nobody gave (7).
  private static final String FOUR_WAYS = "y0010;y1320;y205;y347;";
  private static final int[] SHEET = {42, 17, 61, 48, 300, 87, 88, 11};
  private static final int[] TURNED_ABOUT = {35, 27, 387, 77};

  public static void main(String[] args) {
    slip();
    fits();
    likely();
    odds();
    held();
    most();
    apart();
    never();
    luck();
    clash();
    comes();
    refusalsOfSheets();
    refusalsOfAnswers();
    greatSheets();
    CHECK.end();
  }

  private static OwnWays fourWays(int... answers) {
    OwnWays x = Check.classOf(FOUR_WAYS);
    Check.ints(x, 4, SHEET);
    Check.ints(x, 5, answers);
    return x;
  }

  private static void slip() {
    OwnWays x = fourWays(TURNED_ABOUT);
    int[] due = {3, 0, 3, 2};
    for (int w = 0; w < 4; w++) {
      CHECK.due("P12 slip " + w, x.slip(w, 4, 5), due[w]);
    }
    x.put(5, 0, -1);
    CHECK.due("P12 one left out", x.slip(0, 4, 5), 2);
    x.put(5, 0, -2);
    CHECK.due("P12 an answer below 0", x.slip(0, 4, 5), 3);
    Check.ints(x, 5, -1, -1, -1, -1);
    CHECK.due("P12 all left out", x.slip(0, 4, 5), 0);
    CHECK.due("P12 way 4", x.slip(4, 4, 5), -1);
    CHECK.due("P12 way -1", x.slip(-1, 4, 5), -1);
    CHECK.due("P12 the way goes ahead of the shelves", x.slip(4, 6, 5), -1);
    x.row(6, 2, 0);
    CHECK.due("P12 nothing asked, nothing answered", x.slip(0, 6, 6), 0);
  }

  private static void fits() {
    OwnWays x = fourWays(TURNED_ABOUT);
    CHECK.due("P13 none", x.fits(4, 5, 0), 2);
    CHECK.due("P13 two", x.fits(4, 5, 2), 10);
    CHECK.due("P13 three", x.fits(4, 5, 3), 15);
    CHECK.due("P13 twelve", x.fits(4, 5, 12), 15);
    x.put(5, 3, 0);
    CHECK.due("P13 nobody's", x.fits(4, 5, 0), 0);
    CHECK.due("P13 n -1", x.fits(4, 5, -1), -1);
    CHECK.due("P13 n 13", x.fits(4, 5, 13), -1);
    CHECK.due("P13 n goes ahead of the shelves", x.fits(6, 5, 13), -1);
    OwnWays none = new OwnWays();
    none.row(4, 2, 0);
    CHECK.due("P13 no ways", none.fits(4, 4, 0), 0);
  }

  private static void likely() {
    OwnWays x = fourWays(TURNED_ABOUT);
    CHECK.due("P14 the fewest", x.likely(4, 5), 1);
    Check.ints(x, 5, 25, 13, 213, 77);
    CHECK.due("P14 rightly", x.likely(4, 5), 0);
    Check.ints(x, 5, 0, 0, 0, 77);
    CHECK.due("P14 of several the greatest weight", x.likely(4, 5), 1);
    Check.ints(x, 5, 35, 0, 0, 0);
    CHECK.due("P14 of two the greater weight", x.likely(4, 5), 1);
    x = Check.classOf("y205;y3020;y2020;y1020;y3021;");
    Check.ints(x, 4, 88, 11);
    Check.ints(x, 5, 77);
    CHECK.due("P14 the greatest weight is the last's", x.likely(4, 5), 4);
    x = Check.classOf("y205;y3020;y2020;y1020;");
    Check.ints(x, 4, 88, 11);
    Check.ints(x, 5, 76);
    CHECK.due("P14 of several so the least", x.likely(4, 5), 1);
    OwnWays none = new OwnWays();
    none.row(4, 2, 0);
    CHECK.due("P14 no ways", none.likely(4, 4), -4);
    CHECK.due("P14 a refusal goes ahead of no ways", none.likely(3, 4), -11);
  }

  private static void odds() {
    OwnWays x = Check.classOf("y001;y103;");
    Check.ints(x, 4, 42, 17);
    Check.ints(x, 5, 25);
    CHECK.due("P15 above", x.odds(0, 4, 5, 0), 2);
    CHECK.due("P15 below", x.odds(0, 4, 5, 1), 5);
    CHECK.due("P15 the other above", x.odds(1, 4, 5, 0), 3);
    CHECK.due("P15 the other below", x.odds(1, 4, 5, 1), 5);
    Check.ints(x, 5, -1);
    CHECK.due("P15 none answered", x.odds(1, 4, 5, 0), 3);
    CHECK.due("P15 none answered, below", x.odds(1, 4, 5, 1), 4);
    CHECK.due("P15 one way alone", Check.classOf("y0099;").odds(0, 4, 5, 0), -11);
    CHECK.due("P15 part -1", x.odds(0, 4, 5, -1), -1);
    CHECK.due("P15 part 2", x.odds(0, 4, 5, 2), -1);
    CHECK.due("P15 way 2", x.odds(2, 4, 5, 0), -1);
    CHECK.due("P15 way -1", x.odds(-1, 4, 5, 0), -1);
    OwnWays one = Check.classOf("y0099;");
    one.row(4, 2, 0);
    CHECK.due("P15 certain, above", one.odds(0, 4, 4, 0), 1);
    CHECK.due("P15 certain, below", one.odds(0, 4, 4, 1), 1);
    x = fourWays(TURNED_ABOUT);
    CHECK.due("P15 four ways, above", x.odds(1, 4, 5, 0), 160);
    CHECK.due("P15 four ways, below", x.odds(1, 4, 5, 1), 189);
  }

  private static void held() {
    // Rightly and across answer 42 - 17 alike; they part at 300 - 87.
    OwnWays x = Check.classOf("y0010;y4015;y105;");
    Check.ints(x, 4, 42, 17);
    Check.ints(x, 5, 25);
    CHECK.due("P16 rightly", x.held(4, 5, 3000087, 213, 0), 2);
    CHECK.due("P16 rightly, below", x.held(4, 5, 3000087, 213, 1), 5);
    CHECK.due("P16 across", x.held(4, 5, 3000087, 123, 0), 3);
    CHECK.due("P16 both", x.held(4, 5, 880011, 77, 0), 1);
    CHECK.due("P16 one who fits not", x.held(4, 5, 3000087, 387, 0), 0);
    CHECK.due("P16 one who fits not, below", x.held(4, 5, 3000087, 387, 1), 1);
    CHECK.due("P16 answer 9999", x.held(4, 5, 99990000, 9999, 0), 1);
    CHECK.due("P16 answer 0", x.held(4, 5, 0, 0, 1), 1);
    CHECK.due("P16 answer 10000", x.held(4, 5, 0, 10000, 1), -1);
    CHECK.due("P16 answer -1", x.held(4, 5, 0, -1, 1), -1);
    CHECK.due("P16 no sum", x.held(4, 5, 420043, 0, 1), -1);
    CHECK.due("P16 A too great", x.held(4, 5, 100000000, 0, 1), -1);
    CHECK.due("P16 below 0", x.held(4, 5, -1, 0, 1), -1);
    CHECK.due("P16 far below 0", x.held(4, 5, -2147483648, 0, 1), -1);
    CHECK.due("P16 part 2", x.held(4, 5, 0, 0, 2), -1);
    CHECK.due("P16 part -1", x.held(4, 5, 0, 0, -1), -1);
    CHECK.due("P16 shelves", x.held(4, 6, 0, 0, 0), -11);
    Check.ints(x, 5, 24);
    CHECK.due("P16 none fits", x.held(4, 5, 3000087, 213, 0), -4);
    CHECK.due("P16 -1 ahead of none fits", x.held(4, 5, 3000087, 213, 2), -1);
    x.put(5, 0, -1);
    CHECK.due("P16 left out: all fit", x.held(4, 5, 3000087, 213, 1), 3);
  }

  private static void most() {
    OwnWays x = fourWays();
    CHECK.due("P17 of several the first", x.most(4, 15), 1);
    CHECK.due("P17 two of them", x.most(4, 3), 0);
    CHECK.due("P17 one of them", x.most(4, 8), 0);
    CHECK.due("P17 none of them", x.most(4, 0), 0);
    Check.ints(x, 4, 88, 11, 42, 17, 77, 66, 61, 48);
    CHECK.due("P17 in the midst", x.most(4, 15), 3);
    CHECK.due("P17 who are alike at first", x.most(4, 10), 3);
    CHECK.due("P17 ways that aren't", x.most(4, 16), -1);
    CHECK.due("P17 ways below 0", x.most(4, -1), -1);
    CHECK.due("P17 shelf 8", x.most(8, 1), -1);
    x.row(4, 2, 0);
    CHECK.due("P17 no sums", x.most(4, 15), -4);
  }

  private static void apart() {
    OwnWays x = fourWays();
    CHECK.due("P18 one sum", x.apart(4, 15, 0), 1);
    CHECK.due("P18 its bits", x.apart(4, 15, 1), 2);
    CHECK.due("P18 of several the least", x.apart(4, 3, 1), 1);
    CHECK.due("P18 one way", x.apart(4, 1, 0), 0);
    CHECK.due("P18 one way, bits", x.apart(4, 1, 1), 0);
    // The first parts turned about alone; the second parts no pair; the third parts all.
    x = Check.classOf("y001;y101;y401;y001;");
    Check.ints(x, 4, 42, 17, 88, 11, 5002, 4);
    CHECK.due("P18 the last alone", x.apart(4, 7, 1), 4);
    Check.ints(x, 4, 42, 17, 88, 11, 300, 287, 1000, 1);
    CHECK.due("P18 pairs that none parts", x.apart(4, 9, 0), 0);
    x = Check.classOf("y001;y101;y401;y501;");
    Check.ints(x, 4, 88, 11, 42, 17, 5002, 3);
    CHECK.due("P18 one of three", x.apart(4, 3, 1), 2);
    CHECK.due("P18 two of three", x.apart(4, 15, 0), 1);
    Check.ints(x, 4, 42, 17, 40, 17, 5002, 3);
    CHECK.due("P18 two sums", x.apart(4, 15, 0), 2);
    CHECK.due("P18 two sums, bits", x.apart(4, 15, 1), 6);
    CHECK.due("P18 ways that aren't", x.apart(4, 16, 0), -1);
    CHECK.due("P18 what -1", x.apart(4, 1, -1), -1);
    CHECK.due("P18 what 2", x.apart(4, 1, 2), -1);
    x.row(4, 2, 20);
    CHECK.due("P18 ten sums", x.apart(4, 15, 0), 0);
    x.row(4, 2, 22);
    CHECK.due("P18 eleven sums", x.apart(4, 15, 0), -13);
    CHECK.due("P18 -1 ahead of that", x.apart(4, 15, 2), -1);
    x.row(4, 2, 0);
    CHECK.due("P18 no sums", x.apart(4, 15, 0), 0);
  }

  private static void never() {
    OwnWays x = fourWays();
    CHECK.due("P19 all are parted", x.never(4, 15), 0);
    Check.ints(x, 4, 42, 17, 88, 11);
    CHECK.due("P19 turned and given at 42 - 17", x.never(4, 15), 1);
    CHECK.due("P19 others", x.never(4, 7), 0);
    Check.ints(x, 4, 88, 11);
    CHECK.due("P19 nothing is parted", x.never(4, 15), 6);
    CHECK.due("P19 three", x.never(4, 11), 3);
    CHECK.due("P19 one", x.never(4, 2), 0);
    x.row(4, 2, 0);
    CHECK.due("P19 no sums", x.never(4, 15), 6);
    CHECK.due("P19 ways that aren't", x.never(4, 16), -1);
    CHECK.due("P19 ways below 0", x.never(4, -16), -1);
    CHECK.due("P19 shelf", x.never(3, 1), -11);
  }

  private static void luck() {
    OwnWays x = Check.classOf("y001;y101;y201;y301;");
    // Only in 50 - 40 nobody is stuck.
    Check.ints(x, 4, 50, 45, 61, 56, 50, 40, 42, 17);
    CHECK.due("P20 luck rightly", x.luck(0, 4, 0), 3);
    CHECK.due("P20 marks rightly", x.luck(0, 4, 1), 4);
    CHECK.due("P20 luck turned", x.luck(1, 4, 0), 0);
    CHECK.due("P20 marks turned", x.luck(1, 4, 1), 1);
    x = Check.classOf("y601;y631;y501;");
    Check.ints(x, 4, 2103, 3, 1009, 1000, 42, 17, 3000, 5);
    CHECK.due("P20 luck patched", x.luck(0, 4, 0), 1);
    CHECK.due("P20 marks patched", x.luck(0, 4, 1), 3);
    CHECK.due("P20 luck of zero", x.luck(2, 4, 0), 1);
    CHECK.due("P20 way 3", x.luck(3, 4, 0), -1);
    CHECK.due("P20 way -1", x.luck(-1, 4, 0), -1);
    CHECK.due("P20 what 2", x.luck(0, 4, 2), -1);
    CHECK.due("P20 what -1", x.luck(0, 4, -1), -1);
    CHECK.due("P20 shelf", x.luck(0, 3, 0), -11);
  }

  private static void clash() {
    OwnWays x = Check.classOf("y001;y101;y201;y301;y401;y501;y601;y701;y611;y621;");
    int[] due = {-4, 1001, -4, 1001, -4, 1001, -4, 1001, -4, -4};
    for (int w = 0; w < 10; w++) {
      CHECK.due("P21 clash " + w, x.clash(w), due[w]);
    }
    CHECK.due("P21 way 10", x.clash(10), -1);
    CHECK.due("P21 way -1", x.clash(-1), -1);
  }

  private static void comes() {
    OwnWays x = Check.classOf("y001;y101;y501;");
    CHECK.due("P22 rightly", x.comes(0, 40), 0);
    CHECK.due("P22 below 10 nobody is stuck", x.comes(1, 10), 0);
    CHECK.due("P22 10 less 1 to 9", x.comes(1, 11), 9);
    CHECK.due("P22 below 12", x.comes(1, 12), 17);
    CHECK.due("P22 turned, below 30", x.comes(1, 30), 135);
    CHECK.due("P22 of zero, below 30", x.comes(2, 30), 27);
    CHECK.due("P22 below 1", x.comes(1, 1), 0);
    CHECK.due("P22 n 0", x.comes(1, 0), -1);
    CHECK.due("P22 n 41", x.comes(1, 41), -1);
    CHECK.due("P22 way 3", x.comes(3, 5), -1);
    CHECK.due("P22 way -1", x.comes(-1, 5), -1);
  }

  /** What each call of a sheet answers when the sheet in shelf d is refused so. */
  private static void sheetRefused(String how, OwnWays x, int d, int due) {
    CHECK.due("P12 " + how, x.slip(0, d, 5), due);
    CHECK.due("P13 " + how, x.fits(d, 5, 0), due);
    CHECK.due("P14 " + how, x.likely(d, 5), due);
    CHECK.due("P15 " + how, x.odds(0, d, 5, 0), due);
    CHECK.due("P16 " + how, x.held(d, 5, 0, 0, 0), due);
    CHECK.due("P17 " + how, x.most(d, 1), due);
    CHECK.due("P18 " + how, x.apart(d, 1, 0), due);
    CHECK.due("P19 " + how, x.never(d, 1), due);
    CHECK.due("P20 " + how, x.luck(0, d, 1), due);
    CHECK.due("P23 " + how, x.day(0, d, 5, 1), due);
    CHECK.due("P25 " + how, x.bestSaying(d), due);
    CHECK.due("P30 " + how, x.lacks(d, 5), due);
    CHECK.due("P31 " + how, x.copied(d, 5, 5, 0), due);
  }

  private static void refusalsOfSheets() {
    OwnWays x = Check.classOf("y001;k00;");
    x.row(5, 2, 1);
    sheetRefused("shelf -1", x, -1, -1);
    sheetRefused("shelf 8", x, 8, -1);
    sheetRefused("nothing held", x, 4, -11);
    x.keep(4, 1, 0);
    sheetRefused("a way", x, 4, -12);
    x.row(4, 1, 2);
    sheetRefused("shorts", x, 4, -12);
    x.row(4, 0, 2);
    sheetRefused("bytes", x, 4, -12);
    x.row(4, 2, 3);
    sheetRefused("an odd size", x, 4, -13);
    x.row(4, 2, 26);
    sheetRefused("thirteen sums", x, 4, -13);
    Check.ints(x, 4, 5, 3, 3, 5);
    sheetRefused("a sum that is none", x, 4, -13);
    Check.ints(x, 4, 10000, 5, 5, 3);
    sheetRefused("a sum too great", x, 4, -13);
    Check.ints(x, 4, 5, -1);
    sheetRefused("a sum below 0", x, 4, -13);
    CHECK.due("P23 the answers' shelf is as it was", x.put(5, 0, 0), 0);
  }

  /** What each call of answers answers when those in shelf e are refused so. */
  private static void answersRefused(String how, OwnWays x, int e, int due) {
    CHECK.due("P12 " + how, x.slip(0, 4, e), due);
    CHECK.due("P13 " + how, x.fits(4, e, 0), due);
    CHECK.due("P14 " + how, x.likely(4, e), due);
    CHECK.due("P15 " + how, x.odds(0, 4, e, 0), due);
    CHECK.due("P16 " + how, x.held(4, e, 0, 0, 0), due);
    CHECK.due("P30 " + how, x.lacks(4, e), due);
    CHECK.due("P31 " + how, x.copied(4, e, 6, 0), due);
    CHECK.due("P31 the other " + how, x.copied(4, 6, e, 0), due);
  }

  private static void refusalsOfAnswers() {
    OwnWays x = Check.classOf("y001;k00;");
    Check.ints(x, 4, 42, 17, 5, 3);
    x.row(6, 2, 2);
    answersRefused("shelf -1", x, -1, -1);
    answersRefused("shelf 8", x, 8, -1);
    answersRefused("nothing held", x, 5, -11);
    x.keep(5, 1, 0);
    answersRefused("a way", x, 5, -12);
    x.row(5, 0, 2);
    answersRefused("bytes", x, 5, -12);
    x.row(5, 1, 2);
    answersRefused("shorts", x, 5, -12);
    x.row(5, 2, 1);
    answersRefused("one fewer", x, 5, -13);
    x.row(5, 2, 3);
    answersRefused("one more", x, 5, -13);
    CHECK.due("-11 of the sheet goes ahead of -1 of the answers", x.likely(3, 8), -11);
    CHECK.due("-13 of the sheet goes ahead of -1 of the answers", x.likely(5, 8), -13);
  }

  private static void greatSheets() {
    OwnWays x = Check.classOf("y001;y1099;");
    int[] sums = new int[24];
    int[] answers = new int[12];
    for (int s = 0; s < 12; s++) {
      sums[2 * s] = 9990;
      sums[2 * s + 1] = s + 1 < 10 ? s + 1 : 9;
      answers[s] = 1;
    }
    Check.ints(x, 4, sums);
    Check.ints(x, 5, answers);
    CHECK.due("P12 twelve slips", x.slip(0, 4, 5), 12);
    CHECK.due("P13 twelve slips fit", x.fits(4, 5, 12), 3);
    CHECK.due("P13 eleven don't", x.fits(4, 5, 11), 0);
    CHECK.due("P15 above", x.odds(1, 4, 5, 0), 99);
    CHECK.due("P15 below", x.odds(1, 4, 5, 1), 100);
    CHECK.due("P20 marks", x.luck(0, 4, 1), 12);
    CHECK.due("P14 of twelve slips each", x.likely(4, 5), 1);
  }
}
