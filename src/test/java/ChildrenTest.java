/** Promises 23 to 32: days, sayings, weeks, groups, lessons, who copied, told answers looked at. */
public final class ChildrenTest {
  private static final Check CHECK = new Check("ChildrenTest");
  private static final int[] SHEET = {42, 17, 61, 48, 300, 87, 88, 11};

  public static void main(String[] args) {
    day();
    dayInTheSheetsPlace();
    dayByTheWayHeldNow();
    dayRefusals();
    say();
    bestSaying();
    bestSayingByTheWaysHeldNow();
    weeks();
    drawsAtTheEdge();
    weeksRefusals();
    groups();
    greatest();
    lesson();
    lacks();
    copied();
    judge();
    judgeOfSorts();
    judgeRefusals();
    CHECK.end();
  }

  private static void elements(String what, OwnWays x, int d, int... due) {
    for (int i = 0; i < due.length; i++) {
      CHECK.due(what + " element " + i, x.element(d, i), due[i]);
    }
    CHECK.due(what + " no more", Check.thrownByElement(x, d, due.length), 2);
  }

  private static void dayOf(OwnWays x, int child, int z, int slips, int... due) {
    CHECK.due("P23 day of " + child + " by " + z, x.day(child, 4, 5, z), slips);
    elements("P23 day of " + child + " by " + z, x, 5, due);
  }

  private static void day() {
    OwnWays x = Check.classOf("y001;k050;k05;k00;y105;k10;");
    Check.ints(x, 4, 42, 17, 61, 48, 300, 87, 88, 11, 9999, 0, 7, 7);
    dayOf(x, 0, 1, 4, 925, 9013, 1213, 77, 999, 0);
    dayOf(x, 0, 77, 2, 25, 13, 213, 67, 9999, 10);
    dayOf(x, 0, -5, 2, 9025, 13, 213, 77, 9999, 1);
    dayOf(x, 0, -2147483648, 4, 26, 913, 223, 87, 9999, 0);
    dayOf(x, 0, 2147483647, 3, 35, 23, 213, 77, 9899, 0);
    dayOf(x, 1, 0, 1, 26, 13, 213, 77, 9999, 0);
    dayOf(x, 1, 1, 0, 25, 13, 213, 77, 9999, 0);
    dayOf(x, 2, 0, 0, 25, 13, 213, 77, 9999, 0);
    dayOf(x, 3, 0, 0, 35, 27, 387, 77, 9999, 0);
    CHECK.due("P23 they are ints", x.put(5, 0, 123456), 0);
    CHECK.due("P23 of any size", x.element(5, 0), 123456);
    x.row(4, 2, 0);
    dayOf(x, 0, 1, 0);
    x.keep(5, 1, 0);
    dayOf(x, 0, 1, 0);
    CHECK.due("P23 in a way's place", x.cost(5), -12);
    Check.ints(x, 4, 300, 87);
    x.row(5, 0, 100);
    dayOf(x, 2, 1, 0, 213);
    CHECK.due("P23 ints in the place of bytes", x.put(5, 0, 123456), 0);
    CHECK.due("P23 ints of any size", x.element(5, 0), 123456);
    CHECK.due("P23 the sheet stays", x.element(4, 1), 87);
  }

  private static void dayInTheSheetsPlace() {
    OwnWays x = Check.classOf("y001;k050;");
    Check.ints(x, 5, 42, 17, 61, 48, 300, 87, 88, 11, 9999, 0, 7, 7);
    CHECK.due("P23 in the sheet's place", x.day(0, 5, 5, 1), 4);
    elements("P23 in the sheet's place", x, 5, 925, 9013, 1213, 77, 999, 0);
  }

  private static void dayByTheWayHeldNow() {
    OwnWays x = Check.classOf("y001;y105;k10;t10;");
    Check.ints(x, 4, 42, 17);
    dayOf(x, 0, 1, 0, 35);
    x.say(0, 0);
    dayOf(x, 0, 1, 0, 25);
  }

  private static void dayRefusals() {
    OwnWays x = Check.classOf("y001;k050;");
    Check.ints(x, 4, SHEET);
    x.row(5, 0, 7);
    CHECK.due("P23 child -1", x.day(-1, 4, 5, 1), -1);
    CHECK.due("P23 child 1", x.day(1, 4, 5, 1), -1);
    CHECK.due("P23 shelf -1", x.day(0, 4, -1, 1), -1);
    CHECK.due("P23 shelf 8", x.day(0, 4, 8, 1), -1);
    CHECK.due("P23 shelf 8 ahead of the sheet", x.day(0, 3, 8, 1), -1);
    CHECK.due("P23 the sheet", x.day(0, 3, 5, 1), -11);
    x.row(3, 2, 1);
    CHECK.due("P23 an odd size", x.day(0, 3, 5, 1), -13);
    CHECK.due("P23 nothing changed", x.element(5, 6), 0);
  }

  private static void say() {
    OwnWays x = Check.classOf("y001;y105;y205;k10;k20;t10;t219;t129;");
    CHECK.due("P24 told", x.say(0, 9), 2);
    CHECK.due("P24 told again", x.say(0, 9), 1);
    CHECK.due("P24 rightly", x.say(0, 0), 0);
    CHECK.due("P24 nothing told", x.say(0, 0), 0);
    CHECK.due("P24 another saying", x.say(1, 3), 2);
    CHECK.due("P24 it holds it", x.child(0, 0), 0);
    CHECK.due("P24 child 2", x.say(2, 0), -1);
    CHECK.due("P24 child -1", x.say(-1, 0), -1);
    CHECK.due("P24 saying -1", x.say(0, -1), -1);
    CHECK.due("P24 saying 10", x.say(0, 10), -1);
    CHECK.due("P24 it holds it still", x.child(0, 0), 0);
  }

  private static int best(String text) {
    OwnWays x = Check.classOf(text);
    Check.ints(x, 4, SHEET);
    return x.bestSaying(4);
  }

  private static void bestSaying() {
    CHECK.due("P25 the best", best("y001;y105;y205;k10;k20;t101;t104;t204;"), 4);
    CHECK.due("P25 of several the least", best("y001;y105;y205;k10;k20;t206;t109;"), 6);
    CHECK.due("P25 saying 0", best("y001;y105;k10;t10;t109;"), 0);
    CHECK.due("P25 saying 9", best("y001;y105;k10;t109;"), 9);
    CHECK.due("P25 nothing told", best("y001;y105;k10;"), -4);
    CHECK.due("P25 as good as none", best("y001;y105;y205;k10;t12;"), -4);
    CHECK.due("P25 worse than none", best("y001;y105;k00;t01;"), -4);
    CHECK.due("P25 one better, one worse", best("y001;y105;k00;k10;t01;t10;"), -4);
    CHECK.due("P25 one step alone", best("y001;y105;y205;k10;t12;t20;"), -4);
    CHECK.due("P25 all children together", best("y001;y105;k10;k00;t103;"), 3);
    CHECK.due("P25 no children", best("y001;y105;t10;"), -4);
    OwnWays x = Check.classOf("y001;y105;k10;t10;");
    x.row(4, 2, 0);
    CHECK.due("P25 no sums", x.bestSaying(4), -4);
    Check.ints(x, 4, 42, 17);
    CHECK.due("P25 one mark, where none was", x.bestSaying(4), 0);
    Check.ints(x, 4, SHEET);
    x.bestSaying(4);
    CHECK.due("P25 they hold what they held", x.child(0, 0), 1);
  }

  private static void bestSayingByTheWaysHeldNow() {
    OwnWays x = Check.classOf("y001;y105;y205;k10;t12;t205;");
    Check.ints(x, 4, SHEET);
    CHECK.due("P25 turned about at first", x.bestSaying(4), -4);
    x.say(0, 0);
    CHECK.due("P25 nought now", x.bestSaying(4), 5);
    x.say(0, 5);
    CHECK.due("P25 rightly now", x.bestSaying(4), -4);
  }

  private static void weeks() {
    OwnWays x = Check.classOf("y001;y105;y205;k10;k20;k20;k10;t10;t21;t025;");
    int[][] asked = {{1, 50, 0, 5}, {1, 50, 50, 5}, {3, 30, 20, 9}, {20, 100, 0, 1}, {1, 100, 0, 1},
      {2, 100, 0, 1}, {20, 0, 100, 1}, {5, 60, 40, -7}, {4, 100, 100, 3}, {20, 0, 0, 4}};
    int[] due = {0, 0, 1, 4, 2, 4, 0, 1, 4, 0};
    int[] dueWhenTold = {2, 1, 2, 4, 3, 4, 0, 1, 4, 1};
    for (int i = 0; i < due.length; i++) {
      int[] a = asked[i];
      CHECK.due("P26 weeks " + i, x.weeks(a[0], a[1], a[2], a[3]), due[i]);
    }
    CHECK.due("P26 in mind alone", x.count(4), 0);
    x.say(0, 0);
    x.say(2, 0);
    for (int i = 0; i < due.length; i++) {
      int[] a = asked[i];
      CHECK.due("P26 weeks when told " + i, x.weeks(a[0], a[1], a[2], a[3]), dueWhenTold[i]);
    }
    CHECK.due("P26 still in mind", x.count(4), 2);
  }

  /** The first draw below 100 by the seed 1 is 38, by the seed 4 it is 17. */
  private static void drawsAtTheEdge() {
    OwnWays x = Check.classOf("y001;y105;k10;t10;t01;");
    CHECK.due("P26 38 isn't below 38", x.weeks(1, 38, 0, 1), 0);
    CHECK.due("P26 38 is below 39", x.weeks(1, 39, 0, 1), 1);
    x.say(0, 0);
    CHECK.due("P26 38 isn't below 20 and 18", x.weeks(1, 20, 18, 1), 1);
    CHECK.due("P26 38 is below 20 and 19", x.weeks(1, 20, 19, 1), 0);
    Check.ints(x, 4, 42, 17);
    x.slips(0, 17);
    CHECK.due("P23 17 isn't below 17", x.day(0, 4, 5, 4), 0);
    x.slips(0, 18);
    CHECK.due("P23 17 is below 18", x.day(0, 4, 5, 4), 1);
  }

  private static void weeksRefusals() {
    OwnWays x = Check.classOf("y001;");
    CHECK.due("P26 no children", x.weeks(1, 0, 0, 0), -3);
    CHECK.due("P26 -1 ahead of that", x.weeks(0, 0, 0, 0), -1);
    Check.group(x, "k00;");
    CHECK.due("P26 n 0", x.weeks(0, 0, 0, 0), -1);
    CHECK.due("P26 n 21", x.weeks(21, 0, 0, 0), -1);
    CHECK.due("P26 p -1", x.weeks(1, -1, 0, 0), -1);
    CHECK.due("P26 p 101", x.weeks(1, 101, 0, 0), -1);
    CHECK.due("P26 q -1", x.weeks(1, 0, -1, 0), -1);
    CHECK.due("P26 q 101", x.weeks(1, 0, 101, 0), -1);
    CHECK.due("P26 all at the edge", x.weeks(20, 100, 100, 0), 1);
  }

  private static void groups() {
    OwnWays x = Check.classOf("y001;y105;y215;y715;y105;k00;k10;k40;k20;k30;");
    int[] due = {1, 2, 1, 0, 0, 0, 0, 1};
    for (int kind = 0; kind < 8; kind++) {
      CHECK.due("P27 kind " + kind, x.groups(kind), due[kind]);
    }
    CHECK.due("P27 kind -1", x.groups(-1), -1);
    CHECK.due("P27 kind 8", x.groups(8), -1);
    CHECK.due("P27 no children", new OwnWays().groups(0), 0);
    Check.group(x, "t10;");
    x.say(1, 0);
    CHECK.due("P27 by what is held now", x.groups(1), 1);
  }

  private static void greatest() {
    CHECK.due("P28 no children", new OwnWays().greatest(), -4);
    CHECK.due("P28 all rightly", Check.classOf("y001;k00;k00;").greatest(), -4);
    CHECK.due("P28 0 aside", Check.classOf("y001;y401;k00;k00;k10;").greatest(), 4);
    CHECK.due("P28 most", Check.classOf("y101;y701;k00;k10;k10;").greatest(), 7);
    CHECK.due("P28 of several the least", Check.classOf("y701;y301;k00;k00;k10;k10;").greatest(), 3);
    CHECK.due("P28 of one kind by two ways", Check.classOf("y101;y701;y701;k00;k10;k20;").greatest(), 7);
  }

  private static void lesson() {
    OwnWays x = Check.classOf("y001;y105;y215;y715;k00;k00;k10;k30;k30;k30;k20;k20;");
    CHECK.due("P29 one kind", x.lesson(1), 3);
    CHECK.due("P29 two kinds", x.lesson(2), 5);
    CHECK.due("P29 three kinds", x.lesson(3), 6);
    CHECK.due("P29 m 0", x.lesson(0), -1);
    CHECK.due("P29 m 4", x.lesson(4), -1);
    CHECK.due("P29 no children", new OwnWays().lesson(3), 0);
    CHECK.due("P29 rightly alone", Check.classOf("y001;k00;").lesson(3), 0);
    CHECK.due("P29 fewer kinds", Check.classOf("y101;k00;").lesson(3), 1);
  }

  private static void lacks() {
    OwnWays x = Check.classOf("y705;y001;y401;");
    Check.ints(x, 4, SHEET);
    Check.ints(x, 5, 25, 13, 123, 77);
    CHECK.due("P30 across", x.lacks(4, 5), 4);
    Check.ints(x, 5, 25, 13, 213, 77);
    CHECK.due("P30 nothing", x.lacks(4, 5), 0);
    Check.ints(x, 5, -1, -1, -1, -1);
    CHECK.due("P30 by the weight", x.lacks(4, 5), 7);
    OwnWays none = new OwnWays();
    none.row(4, 2, 0);
    CHECK.due("P30 no ways", none.lacks(4, 4), -4);
    CHECK.due("P30 a refusal ahead", none.lacks(4, 3), -11);
  }

  private static void copied() {
    OwnWays x = Check.classOf("y001;y105;");
    Check.ints(x, 4, SHEET);
    Check.ints(x, 5, 35, 13, 99, -1);
    Check.ints(x, 6, 35, 13, 99, -1);
    CHECK.due("P31 alike and wrong", x.copied(4, 5, 6, 0), 2);
    CHECK.due("P31 rare", x.copied(4, 5, 6, 1), 1);
    CHECK.due("P31 of itself", x.copied(4, 5, 5, 0), 2);
    x.put(6, 0, 34);
    CHECK.due("P31 one unlike", x.copied(4, 5, 6, 0), 1);
    x.put(6, 2, -99);
    x.put(5, 2, -99);
    CHECK.due("P31 one below 0", x.copied(4, 5, 6, 1), 1);
    CHECK.due("P31 what -1", x.copied(4, 5, 6, -1), -1);
    CHECK.due("P31 what 2", x.copied(4, 5, 6, 2), -1);
    CHECK.due("P31 what ahead of the sheet", x.copied(3, 5, 6, 2), -1);
    CHECK.due("P31 the first's ahead of the second's", x.copied(4, 3, 8, 0), -11);
    CHECK.due("P31 the sheet's ahead of both", x.copied(5, 3, 8, 0), -13);
    OwnWays none = new OwnWays();
    Check.ints(none, 4, 5, 3);
    Check.ints(none, 5, 1);
    CHECK.due("P31 no ways", none.copied(4, 5, 5, 1), 1);
  }

  private static void judge() {
    OwnWays x = Check.classOf("y001;y105;");
    Check.ints(x, 3, 300, 87, 7, 8, 3, 0);
    CHECK.due("P32 all so", x.judge(1, 3), -4);
    CHECK.due("P32 the first", x.judge(0, 3), 2);
    x.put(3, 4, 4);
    CHECK.due("P32 one that isn't", x.judge(1, 3), 4);
    x.put(3, 4, -2147483648);
    CHECK.due("P32 the least is skipped", x.judge(1, 3), -4);
    x.put(3, 2, -2147483648);
    x.put(3, 3, 9);
    CHECK.due("P32 behind one that is skipped", x.judge(1, 3), 3);
    Check.ints(x, 3, 300, 87);
    CHECK.due("P32 nothing told", x.judge(1, 3), -4);
    Check.ints(x, 3, 300, 87, 7);
    CHECK.due("P32 one told", x.judge(1, 3), -4);
    Check.ints(x, 3, 300, 87, 7, 8, 3, 0, 0);
    CHECK.due("P32 beyond the digits", x.judge(1, 3), 6);
    Check.ints(x, 3, 300, 87, 7, 8, 3, -2147483648, 1);
    CHECK.due("P32 beyond, behind one that is skipped", x.judge(1, 3), 6);
  }

  private static void judgeOfSorts() {
    OwnWays x = Check.classOf("y001;y105;");
    Check.fill(x, 3, 0, 42, 17, -128, 3);
    CHECK.due("P32 bytes", x.judge(1, 3), -4);
    Check.fill(x, 3, 1, 42, 17, -32768, 3);
    CHECK.due("P32 shorts", x.judge(1, 3), -4);
    Check.fill(x, 3, 1, 42, 17, -128, 3);
    CHECK.due("P32 the least byte among shorts", x.judge(1, 3), 2);
    Check.fill(x, 3, 2, 42, 17, -32768, 3);
    CHECK.due("P32 the least short among ints", x.judge(1, 3), 2);
    Check.fill(x, 3, 0, 127, 8, 1, 2);
    CHECK.due("P32 the greatest byte", x.judge(1, 3), -4);
    Check.fill(x, 3, 0, 128, 8, 0, 2);
    CHECK.due("P32 a byte beyond", x.judge(1, 3), -13);
  }

  private static void judgeRefusals() {
    OwnWays x = Check.classOf("y001;");
    Check.ints(x, 3, 42, 17);
    CHECK.due("P32 way 1", x.judge(1, 3), -1);
    CHECK.due("P32 way -1", x.judge(-1, 3), -1);
    CHECK.due("P32 shelf 8", x.judge(0, 8), -1);
    CHECK.due("P32 shelf -1", x.judge(0, -1), -1);
    CHECK.due("P32 nothing held", x.judge(0, 4), -11);
    CHECK.due("P32 way 1 ahead of that", x.judge(1, 4), -1);
    x.keep(4, 1, 0);
    CHECK.due("P32 a way", x.judge(0, 4), -12);
    x.row(4, 2, 1);
    CHECK.due("P32 one element", x.judge(0, 4), -13);
    x.row(4, 0, 0);
    CHECK.due("P32 no element", x.judge(0, 4), -13);
    Check.ints(x, 4, 17, 42);
    CHECK.due("P32 no sum", x.judge(0, 4), -13);
    Check.ints(x, 4, 10000, 42);
    CHECK.due("P32 too great", x.judge(0, 4), -13);
    Check.ints(x, 4, 42, -1);
    CHECK.due("P32 below 0", x.judge(0, 4), -13);
  }
}
