import java.util.Arrays;

/** What a call answers depends on what is held alone: not on what was asked before, of longer sheets or the same. */
public final class AgainTest {
  private static final Check CHECK = new Check("AgainTest");
  private static final String CLASS = "y003;y105;y407;y509;y201;y622;y731;k050;k110;k220;k30;t10;t205;t30;";
  // 5020 less 1143 parts the first four ways at once.
  private static final int[] LONG_SHEET = {5020, 1143, 42, 17, 5020, 1143, 300, 87, 5020, 1143, 5020, 1143, 61, 48,
    5020, 1143, 1000, 1, 5020, 1143};
  private static final int[] LONG_ANSWERS = {1, 2, 3, 4, 5, 6, 7, 8, 9, 10};
  private static final int[][] SHEETS = {{}, {88, 11}, {42, 17}, {42, 17, 40, 17}, {42, 17, 40, 17, 5002, 3},
    {1105, 1096, 2103, 1994, 7, 7, 507, 49}};
  private static final int[][] ANSWERS = {{}, {77}, {35}, {35, -1}, {25, 23, 1}, {19, 1909, 0, 1}};

  // 4 stands for the sheet's shelf, 5 and 6 for the answers'.
  private static final Object[][] ASKED = {{"right", 42, 17}, {"parts", 42, 17, 1}, {"parts", 42, 17, 15},
    {"parts", 88, 11, 64}, {"whose", 42, 17, 35}, {"work", 1, 42, 17}, {"column", 1, 42, 17, 0, 1}, {"slip", 1, 4, 5},
    {"fits", 4, 5, 0}, {"fits", 4, 5, 1}, {"likely", 4, 5}, {"odds", 1, 4, 5, 0}, {"odds", 1, 4, 5, 1},
    {"held", 4, 5, 420017, 35, 0}, {"held", 4, 5, 420017, 35, 1}, {"most", 4, 127}, {"most", 4, 1}, {"apart", 4, 15, 0},
    {"apart", 4, 15, 1}, {"apart", 4, 127, 1}, {"never", 4, 127}, {"luck", 0, 4, 0}, {"luck", 5, 4, 1}, {"clash", 1},
    {"comes", 1, 20}, {"bestSaying", 4}, {"weeks", 3, 40, 30, 5}, {"groups", 1}, {"greatest"}, {"lesson", 2},
    {"lacks", 4, 5}, {"copied", 4, 5, 6, 0}, {"copied", 4, 5, 6, 1}, {"copied", 4, 5, 5, 0}, {"judge", 1, 4},
    {"count", 3}, {"day", 0, 4, 3, 99}, {"element", 3, 0}};

  public static void main(String[] args) {
    for (int i = 0; i < SHEETS.length; i++) {
      OwnWays fresh = school();
      long[] due = asked(fresh, SHEETS[i], ANSWERS[i]);
      same("asked twice of sheet " + i, asked(fresh, SHEETS[i], ANSWERS[i]), due);
      OwnWays used = school();
      asked(used, LONG_SHEET, LONG_ANSWERS);
      same("asked of sheet " + i + " behind a longer one", asked(used, SHEETS[i], ANSWERS[i]), due);
    }
    theSameAtOnce();
    behindRefusedSheets();
    behindALongerText();
    CHECK.end();
  }

  private static OwnWays school() {
    return Check.classOf(CLASS);
  }

  private static long[] asked(OwnWays x, int[] sheet, int[] answers) {
    Check.ints(x, 4, sheet);
    Check.ints(x, 5, answers);
    Check.ints(x, 6, answers);
    long[] told = new long[ASKED.length];
    for (int i = 0; i < told.length; i++) {
      int[] a = new int[ASKED[i].length - 1];
      for (int k = 0; k < a.length; k++) {
        a[k] = (Integer) ASKED[i][k + 1];
      }
      told[i] = Dispatch.ownAnswer(x, (String) ASKED[i][0], a);
    }
    return told;
  }

  private static void same(String what, long[] got, long[] due) {
    for (int i = 0; i < due.length; i++) {
      CHECK.due(what + ": " + Arrays.toString(ASKED[i]), got[i], due[i]);
    }
  }

  private static void theSameAtOnce() {
    OwnWays x = school();
    Check.ints(x, 4, 42, 17, 42, 17);
    for (int i = 0; i < 3; i++) {
      CHECK.due("P10 one way", x.parts(42, 17, 1), 1);
    }
    for (int i = 0; i < 3; i++) {
      CHECK.due("P10 four ways", x.parts(42, 17, 15), 2);
      CHECK.due("P17 of two sums alike the first", x.most(4, 15), 0);
    }
    // The first draw below 100 by the seed 1 is 38.
    OwnWays y = Check.classOf("y001;y105;k10;t10;");
    for (int i = 0; i < 3; i++) {
      CHECK.due("P26 draws begin anew", y.weeks(1, 39, 0, 1), 1);
      CHECK.due("P26 draws begin anew", y.weeks(1, 38, 0, 1), 0);
    }
  }

  /** A sheet that is refused at its last sum leaves nothing behind for the next one. */
  private static void behindRefusedSheets() {
    OwnWays x = school();
    Check.ints(x, 4, 42, 17);
    Check.ints(x, 5, 25);
    Check.ints(x, 6, 300, 87, 5, 3, 3, 5);
    for (int i = 0; i < 2; i++) {
      CHECK.due("luck", x.luck(0, 4, 0), 1);
      CHECK.due("slips", x.slip(1, 4, 5), 1);
      CHECK.due("copied", x.copied(4, 5, 5, 0), 0);
      CHECK.due("a sheet that is none", x.luck(0, 6, 0), -13);
      CHECK.due("answers that are not as many", x.slip(0, 4, 6), -13);
    }
  }

  /** A text with a fault is read to nothing, and leaves nothing behind for the next one. */
  private static void behindALongerText() {
    OwnWays x = Check.classOf("y003;");
    CHECK.due("a fault far behind", Check.group(x, "y105;y207;k110;k220;t10;t014;t219;y801;"), -2034);
    CHECK.due("a way more", Check.group(x, "y309;k14;"), 2);
    CHECK.due("its kind", x.way(1, 0), 3);
    CHECK.due("two ways", x.count(0), 2);
    CHECK.due("one child", x.count(1), 1);
    CHECK.due("its slips", x.child(0, 1), 4);
    CHECK.due("weights", x.count(3), 12);
    CHECK.due("no sayings", x.count(5), 0);
    CHECK.due("none by 4", x.told(4, 0), 0);
    CHECK.due("a third way isn't", x.way(2, 0), -1);
    CHECK.due("nor can it be held", Check.group(x, "k20;"), -2000);
  }
}
