/** Promises 1 to 6: a new object, classes as texts, what is told of ways, children and sayings. */
public final class ClassesTest {
  private static final Check CHECK = new Check("ClassesTest");
  private static final String TEN_WAYS = "y001;y112;y223;y334;y445;y556;y647;y758;y679;y6990;";

  public static void main(String[] args) {
    aNewObject();
    goodTexts();
    faultsOfSigns();
    faultsOfStatements();
    roomForStatements();
    groupRefusals();
    aFaultyTextChangesNothing();
    ways();
    children();
    sayings();
    slips();
    CHECK.end();
  }

  private static void aNewObject() {
    OwnWays x = new OwnWays();
    for (int what = 0; what <= 5; what++) {
      CHECK.due("P1 count " + what, x.count(what), 0);
    }
    CHECK.due("P1 way", x.way(0, 0), -1);
    CHECK.due("P1 child", x.child(0, 0), -1);
    CHECK.due("P1 restore", x.restore(), -3);
    for (int d = 0; d < 8; d++) {
      CHECK.due("P1 shelf " + d, x.cost(d), -11);
      CHECK.due("P1 shelf's row " + d, x.put(d, 0, 0), -11);
    }
  }

  private static void goodTexts() {
    CHECK.due("P2 one", Check.group(new OwnWays(), "y001;"), 1);
    CHECK.due("P2 weight of two digits", Check.group(new OwnWays(), "y0099;"), 1);
    CHECK.due("P2 ten ways", Check.group(new OwnWays(), TEN_WAYS), 10);
    CHECK.due("P2 all letters", Check.group(new OwnWays(), "y001;k00;k050;t00;t009;"), 5);
    OwnWays x = Check.classOf("y001;k00;");
    CHECK.due("P2 a second text goes on", Check.group(x, "y105;k17;t10;"), 3);
    CHECK.due("P2 ways of both", x.count(0), 2);
    CHECK.due("P2 children of both", x.count(1), 2);
    CHECK.due("P2 the second's child", x.child(1, 0), 1);
    CHECK.due("P2 the row stays", x.element(0, 0), 'y');
    CHECK.due("P2 the row can be read again", x.group(0), 3);
    CHECK.due("P2 ways then", x.count(0), 3);
  }

  private static void fault(String text, int due) {
    CHECK.due("P2 group of " + text, Check.group(new OwnWays(), text), due);
    OwnWays x = Check.classOf(TEN_WAYS.substring(0, 25) + "k00;");
    if (due > -2000) {
      CHECK.due("P2 group of " + text + " behind another", Check.group(x, text), due);
    }
  }

  private static void faultsOfSigns() {
    fault("", -1000);
    fault("x", -1000);
    fault(";", -1000);
    fault("Y001;", -1000);
    fault("y", -1001);
    fault("ya", -1001);
    fault("y0", -1002);
    fault("y0a", -1002);
    fault("y00", -1003);
    fault("y00;", -1003);
    fault("y00:", -1003);
    fault("y00/", -1003);
    fault("y001", -1004);
    fault("y0001;", -1004);
    fault("y0012", -1005);
    fault("y00123;", -1005);
    fault("y00100;", -1005);
    fault("y001;x", -1005);
    fault("y001;;", -1005);
    fault("y001; ", -1005);
    fault("y001;y", -1006);
    fault("k", -1001);
    fault("k;", -1001);
    fault("k0", -1002);
    fault("k0;", -1002);
    fault("k05", -1003);
    fault("k001;", -1003);
    fault("k0123;", -1004);
    fault("k012", -1004);
    fault("t", -1001);
    fault("t0", -1002);
    fault("t0;", -1002);
    fault("t00", -1003);
    fault("t00a", -1003);
    fault("t000", -1004);
    fault("t0000;", -1004);
    OwnWays x = new OwnWays();
    Check.fill(x, 0, 0, 'y', '0', '0', -79, ';');
    CHECK.due("P2 a byte below 0", x.group(0), -1003);
    Check.fill(x, 0, 0, 'y', '0', '0', '1', 0);
    CHECK.due("P2 a byte 0", x.group(0), -1004);
  }

  private static void faultsOfStatements() {
    fault("y801;", -2000);
    fault("y901;", -2000);
    fault("y000;", -2000);
    fault("k00;", -2000);
    fault("k00;y001;", -2000);
    fault("t00;", -2000);
    fault("y001;k10;", -2005);
    fault("y001;k051;", -2005);
    fault("y001;k099;", -2005);
    fault("y001;k050;k01;k10;", -2014);
    fault("y001;t01;", -2005);
    fault("y001;t10;", -2005);
    fault("y001;t00;t119;", -2009);
    fault("y001;y101;t01;t20;y801;", -2014);
    fault("y801;y0", -1007);
    fault("y801;y001;k99;x", -1014);
    fault("y801;k00;", -2000);
    fault("y001;k10;t11;k10;", -2005);
  }

  private static void roomForStatements() {
    OwnWays x = new OwnWays();
    CHECK.due("P2 eleven ways", Check.group(x, TEN_WAYS + "y001;"), -2051);
    CHECK.due("P2 none of them", x.count(0), 0);
    CHECK.due("P2 nine children", Check.group(x, "y001;" + "k00;".repeat(9)), -2037);
    CHECK.due("P2 eight children", Check.group(x, "y001;" + "k00;".repeat(8)), 9);
    CHECK.due("P2 a ninth child", Check.group(x, "k00;"), -2000);
    CHECK.due("P2 nine ways more", Check.group(x, "y001;".repeat(9)), 9);
    CHECK.due("P2 an eleventh way", Check.group(x, "y001;"), -2000);
    CHECK.due("P2 a hundred bytes", Check.group(x, "t00;".repeat(25)), 25);
  }

  private static void groupRefusals() {
    OwnWays x = Check.classOf("y001;");
    CHECK.due("P2 shelf -1", x.group(-1), -1);
    CHECK.due("P2 shelf 8", x.group(8), -1);
    CHECK.due("P2 nothing held", x.group(1), -11);
    x.keep(1, 1, 0);
    CHECK.due("P2 a way", x.group(1), -12);
    x.row(1, 1, 5);
    CHECK.due("P2 shorts", x.group(1), -12);
    x.row(1, 2, 5);
    CHECK.due("P2 ints", x.group(1), -12);
  }

  private static void aFaultyTextChangesNothing() {
    OwnWays x = Check.classOf("y001;y105;k00;t01;");
    CHECK.due("P2 faulty", Check.group(x, "y205;k15;t10;t002;k95;"), -2018);
    CHECK.due("P2 faulty by a sign", Check.group(x, "y205;k15;t10;t002;k9"), -1020);
    CHECK.due("P2 ways as before", x.count(0), 2);
    CHECK.due("P2 children as before", x.count(1), 1);
    CHECK.due("P2 sayings as before", x.count(5), 1);
    CHECK.due("P2 told as before", x.told(0, 0), 1);
    CHECK.due("P2 told nothing", x.told(0, 1), 1);
  }

  private static void ways() {
    OwnWays x = Check.classOf(TEN_WAYS);
    int[] kinds = {0, 1, 2, 3, 4, 5, 6, 7, 6, 6};
    int[] figures = {0, 1, 2, 3, 4, 5, 4, 5, 7, 9};
    int[] weights = {1, 2, 3, 4, 5, 6, 7, 8, 9, 90};
    int[] costs = {0, 8, 5, 3, 12, 4, 16, 11, 19, 21};
    for (int w = 0; w < 10; w++) {
      CHECK.due("P3 kind of " + w, x.way(w, 0), kinds[w]);
      CHECK.due("P3 figure of " + w, x.way(w, 1), figures[w]);
      CHECK.due("P3 weight of " + w, x.way(w, 2), weights[w]);
      CHECK.due("P3 cost of " + w, x.way(w, 3), costs[w]);
    }
    CHECK.due("P3 way -1", x.way(-1, 0), -1);
    CHECK.due("P3 way 10", x.way(10, 0), -1);
    CHECK.due("P3 what -1", x.way(0, -1), -1);
    CHECK.due("P3 what 4", x.way(0, 4), -1);
    CHECK.due("P3 not there", Check.classOf("y001;").way(1, 2), -1);
  }

  private static void children() {
    OwnWays x = Check.classOf("y001;y105;k150;k07;t10;");
    CHECK.due("P4 holds", x.child(0, 0), 1);
    CHECK.due("P4 slips", x.child(0, 1), 50);
    CHECK.due("P4 held first", x.child(0, 2), 1);
    x.say(0, 0);
    CHECK.due("P4 holds when told", x.child(0, 0), 0);
    CHECK.due("P4 held first still", x.child(0, 2), 1);
    CHECK.due("P4 another holds", x.child(1, 0), 0);
    CHECK.due("P4 another's slips", x.child(1, 1), 7);
    OwnWays y = Check.classOf("y001;y105;y205;k20;k00;k10;t20;t02;");
    y.say(0, 0);
    y.say(1, 0);
    int[] first = {2, 0, 1};
    int[] then = {0, 2, 1};
    for (int c = 0; c < 3; c++) {
      CHECK.due("P4 holds now " + c, y.child(c, 0), then[c]);
      CHECK.due("P4 held first " + c, y.child(c, 2), first[c]);
    }
    CHECK.due("P4 child -1", x.child(-1, 0), -1);
    CHECK.due("P4 child 2", x.child(2, 0), -1);
    CHECK.due("P4 what -1", x.child(0, -1), -1);
    CHECK.due("P4 what 3", x.child(0, 3), -1);
  }

  private static void sayings() {
    OwnWays x = Check.classOf("y001;y105;y205;t10;t201;t129;t10;t12;");
    CHECK.due("P5 the last one told", x.told(0, 1), 2);
    CHECK.due("P5 saying 1", x.told(1, 2), 0);
    CHECK.due("P5 saying 9", x.told(9, 1), 2);
    CHECK.due("P5 nothing told", x.told(0, 2), 2);
    CHECK.due("P5 nothing told by saying 5", x.told(5, 1), 1);
    CHECK.due("P5 saying -1", x.told(-1, 0), -1);
    CHECK.due("P5 saying 10", x.told(10, 0), -1);
    CHECK.due("P5 way -1", x.told(0, -1), -1);
    CHECK.due("P5 way 3", x.told(0, 3), -1);
    CHECK.due("P5 the number is 0 anew in each statement", Check.classOf("y001;y105;t015;t10;").told(0, 1), 0);
  }

  private static void slips() {
    OwnWays x = Check.classOf("y001;k020;");
    CHECK.due("P6 were", x.slips(0, 0), 20);
    CHECK.due("P6 become", x.child(0, 1), 0);
    CHECK.due("P6 the most", x.slips(0, 50), 0);
    CHECK.due("P6 too many", x.slips(0, 51), -1);
    CHECK.due("P6 too few", x.slips(0, -1), -1);
    CHECK.due("P6 child 1", x.slips(1, 5), -1);
    CHECK.due("P6 child -1", x.slips(-1, 5), -1);
    CHECK.due("P6 as it was", x.child(0, 1), 50);
  }
}
