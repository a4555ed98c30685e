/** Promises 36 to 42: what shelves hold. */
public final class ShelvesTest {
  private static final Check CHECK = new Check("ShelvesTest");

  public static void main(String[] args) {
    keep();
    row();
    put();
    element();
    copy();
    copyRefusals();
    cost();
    toss();
    CHECK.end();
  }

  private static void keep() {
    OwnWays x = Check.classOf("y013;y105;");
    CHECK.due("P36 a way", x.keep(7, 1, 1), 0);
    CHECK.due("P36 it is held", x.cost(7), 8);
    CHECK.due("P36 nothing", x.keep(7, 0, 99), 0);
    CHECK.due("P36 nothing is held", x.cost(7), -11);
    x.row(7, 0, 3);
    CHECK.due("P36 in a row's place", x.keep(7, 1, 1), 0);
    CHECK.due("P36 a row no more", x.put(7, 0, 0), -12);
    CHECK.due("P36 the row's elements are gone", Check.thrownByElement(x, 7, 0), 2);
    x.row(7, 0, 3);
    CHECK.due("P36 nothing in a row's place", x.keep(7, 0, -1), 0);
    CHECK.due("P36 no row", x.put(7, 0, 0), -11);
    CHECK.due("P36 shelf -1", x.keep(-1, 0, 0), -1);
    CHECK.due("P36 shelf 8", x.keep(8, 0, 0), -1);
    CHECK.due("P36 what -1", x.keep(0, -1, 0), -1);
    CHECK.due("P36 what 2", x.keep(0, 2, 0), -1);
    CHECK.due("P36 way 2", x.keep(0, 1, 2), -1);
    CHECK.due("P36 way -1", x.keep(0, 1, -1), -1);
    CHECK.due("P36 as it was", x.element(0, 0), 'y');
  }

  private static void row() {
    OwnWays x = new OwnWays();
    for (int sort = 0; sort < 3; sort++) {
      CHECK.due("P37 sort " + sort, x.row(sort, sort, 100), 0);
      CHECK.due("P37 the last place", x.element(sort, 99), 0);
      CHECK.due("P37 no place beyond", x.put(sort, 100, 1), -13);
    }
    x.put(0, 5, 7);
    x.row(0, 2, 6);
    CHECK.due("P37 0 at first again", x.element(0, 5), 0);
    x.put(0, 0, 7);
    x.row(0, 2, 6);
    CHECK.due("P37 the first one too", x.element(0, 0), 0);
    CHECK.due("P37 no elements", x.row(0, 2, 0), 0);
    CHECK.due("P37 no places", x.put(0, 0, 1), -13);
    OwnWays y = Check.classOf("y765;");
    y.keep(3, 1, 0);
    CHECK.due("P37 in a way's place", y.row(3, 1, 2), 0);
    CHECK.due("P37 no way any more", y.cost(3), -12);
    CHECK.due("P37 no failure any more", y.toss(3), -12);
    CHECK.due("P37 its elements", y.element(3, 1), 0);
    CHECK.due("P37 shelf -1", x.row(-1, 0, 1), -1);
    CHECK.due("P37 shelf 8", x.row(8, 0, 1), -1);
    CHECK.due("P37 sort -1", x.row(1, -1, 1), -1);
    CHECK.due("P37 sort 3", x.row(1, 3, 1), -1);
    CHECK.due("P37 n 101", x.row(1, 0, 101), -1);
    CHECK.due("P37 n -1", x.row(1, 0, -1), -14);
    CHECK.due("P37 sort ahead of n", x.row(1, 3, -1), -1);
    CHECK.due("P37 shelf ahead of n", x.row(8, 0, -1), -1);
    CHECK.due("P37 as it was", x.element(1, 99), 0);
  }

  private static void put() {
    OwnWays x = Check.classOf("y001;");
    int[] values = {5, -1, 127, 128, -129, 32767, 32768, 65536, 2147483647, -2147483648, 511};
    for (int v : values) {
      for (int sort = 0; sort < 3; sort++) {
        x.row(3, sort, 2);
        CHECK.due("P38 put " + v, x.put(3, 1, v), 0);
        long due = sort == 0 ? (byte) v : sort == 1 ? (short) v : v;
        CHECK.due("P38 lowest bits of " + v + " in sort " + sort, x.element(3, 1), due);
        CHECK.due("P38 another element", x.element(3, 0), 0);
      }
    }
    CHECK.due("P38 shelf -1", x.put(-1, 0, 0), -1);
    CHECK.due("P38 shelf 8", x.put(8, 0, 0), -1);
    CHECK.due("P38 nothing held", x.put(4, 0, 0), -11);
    x.keep(4, 1, 0);
    CHECK.due("P38 a way", x.put(4, 0, 0), -12);
    CHECK.due("P38 place -1", x.put(3, -1, 0), -13);
    CHECK.due("P38 place 2", x.put(3, 2, 0), -13);
  }

  private static void element() {
    OwnWays x = Check.classOf("y001;");
    Check.ints(x, 3, 8, -2147483648);
    CHECK.due("P39 first", x.element(3, 0), 8);
    CHECK.due("P39 last", x.element(3, 1), -2147483648L);
    CHECK.due("P39 nothing thrown", Check.thrownByElement(x, 3, 1), 0);
    CHECK.due("P39 shelf -1", Check.thrownByElement(x, -1, 0), 1);
    CHECK.due("P39 shelf 8", Check.thrownByElement(x, 8, 0), 1);
    CHECK.due("P39 the shelf ahead of the place", Check.thrownByElement(x, 8, -1), 1);
    CHECK.due("P39 nothing held", Check.thrownByElement(x, 4, 0), 2);
    x.keep(4, 1, 0);
    CHECK.due("P39 a way", Check.thrownByElement(x, 4, 0), 2);
    CHECK.due("P39 place -1", Check.thrownByElement(x, 3, -1), 2);
    CHECK.due("P39 place 2", Check.thrownByElement(x, 3, 2), 2);
  }

  private static void elements(String what, OwnWays x, int d, int... due) {
    for (int i = 0; i < due.length; i++) {
      CHECK.due(what + " element " + i, x.element(d, i), due[i]);
    }
  }

  private static void copy() {
    OwnWays x = new OwnWays();
    Check.ints(x, 1, 1, 2, 3, 4, 5);
    Check.ints(x, 2, 9, 9, 9);
    CHECK.due("P40 some", x.copy(1, 1, 2, 0, 2), 2);
    elements("P40 some", x, 2, 2, 3, 9);
    elements("P40 they stay", x, 1, 1, 2, 3, 4, 5);
    CHECK.due("P40 upward in one row", x.copy(1, 0, 1, 1, 4), 4);
    elements("P40 upward", x, 1, 1, 1, 2, 3, 4);
    CHECK.due("P40 downward in one row", x.copy(1, 1, 1, 0, 4), 4);
    elements("P40 downward", x, 1, 1, 2, 3, 4, 4);
    CHECK.due("P40 all", x.copy(2, 0, 1, 2, 3), 3);
    elements("P40 all", x, 1, 1, 2, 2, 3, 9);
    CHECK.due("P40 none", x.copy(2, 0, 1, 0, 0), 0);
    CHECK.due("P40 none, from the last place to the last", x.copy(2, 2, 1, 4, 0), 0);
    Check.fill(x, 3, 0, -3, 4);
    Check.fill(x, 4, 0, 0, 0);
    CHECK.due("P40 bytes", x.copy(3, 0, 4, 0, 2), 2);
    elements("P40 bytes", x, 4, -3, 4);
  }

  private static void copyRefusals() {
    OwnWays x = Check.classOf("y001;");
    Check.ints(x, 1, 1, 2, 3);
    Check.ints(x, 2, 7, 8);
    x.keep(3, 1, 0);
    x.row(4, 1, 3);
    CHECK.due("P40 from shelf -1", x.copy(-1, 0, 2, 0, 1), -1);
    CHECK.due("P40 to shelf 8", x.copy(1, 0, 8, 0, 1), -1);
    CHECK.due("P40 -1 ahead of -11", x.copy(5, 0, 8, 0, 1), -1);
    CHECK.due("P40 from nothing", x.copy(5, 0, 2, 0, 1), -11);
    CHECK.due("P40 to nothing", x.copy(1, 0, 5, 0, 1), -11);
    CHECK.due("P40 -11 ahead of -12", x.copy(3, 0, 5, 0, 1), -11);
    CHECK.due("P40 from a way", x.copy(3, 0, 2, 0, 1), -12);
    CHECK.due("P40 to a way", x.copy(1, 0, 3, 0, 1), -12);
    CHECK.due("P40 of two ways", x.copy(3, 0, 3, 0, 1), -12);
    CHECK.due("P40 of two sorts", x.copy(1, 0, 4, 0, 1), -12);
    CHECK.due("P40 -12 ahead of -13", x.copy(1, 0, 4, 0, -1), -12);
    int[][] places = {{0, 0, -1}, {-1, 0, 1}, {0, -1, 1}, {0, 0, 3}, {2, 0, 2}, {0, 1, 2}, {3, 0, 1}, {0, 2, 1},
      {4, 0, 1}, {0, 3, 1}, {2147483647, 0, 1}, {1, 0, 2147483647}, {0, 2147483647, 2147483647},
      {-2147483648, 0, -2147483648}};
    for (int[] p : places) {
      CHECK.due("P40 from " + p[0] + " to " + p[1] + " so many " + p[2], x.copy(1, p[0], 2, p[1], p[2]), -13);
    }
    elements("P40 as it was", x, 2, 7, 8);
    CHECK.due("P40 a place of the second row alone", x.copy(2, 2, 1, 0, 1), -13);
    CHECK.due("P40 more than the first row has", x.copy(2, 0, 1, 0, 3), -13);
    CHECK.due("P40 more than it has from there", x.copy(2, 1, 1, 1, 2), -13);
    elements("P40 the second row as it was", x, 1, 1, 2, 3);
  }

  private static final String ALL_KINDS = "y091;y191;y291;y391;y491;y591;y691;y791;y681;y601;";

  private static void cost() {
    OwnWays x = Check.classOf(ALL_KINDS);
    int[] due = {0, 8, 5, 9, 12, 4, 21, 19, 20, 12};
    for (int w = 0; w < 10; w++) {
      x.keep(2, 1, w);
      CHECK.due("P41 cost of " + w, x.cost(2), due[w]);
    }
    CHECK.due("P41 shelf -1", x.cost(-1), -1);
    CHECK.due("P41 shelf 8", x.cost(8), -1);
    CHECK.due("P41 nothing held", x.cost(3), -11);
    CHECK.due("P41 a row", x.cost(0), -12);
  }

  private static void toss() {
    OwnWays x = Check.classOf(ALL_KINDS);
    int[] due = {0, 1, 2, 3, 4, -15, 106, 219, 108, -15};
    for (int w = 0; w < 10; w++) {
      x.keep(2, 1, w);
      CHECK.due("P42 toss of " + w, x.toss(2), due[w]);
    }
    OwnWays noFigures = Check.classOf("y001;y101;y201;y301;y401;y501;y601;y701;");
    for (int w = 0; w < 8; w++) {
      noFigures.keep(2, 1, w);
      CHECK.due("P42 toss without a figure of " + w, noFigures.toss(2), -15);
    }
    CHECK.due("P42 shelf -1", x.toss(-1), -1);
    CHECK.due("P42 shelf 8", x.toss(8), -1);
    CHECK.due("P42 nothing held", x.toss(3), -11);
    CHECK.due("P42 a row", x.toss(0), -12);
  }
}
