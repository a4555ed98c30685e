/** Promises 7 to 11: sums, worked by ways of every kind. */
public final class SumsTest {
  private static final Check CHECK = new Check("SumsTest");
  private static final String TEN_WAYS = "y001;y112;y223;y334;y445;y556;y647;y758;y679;y6990;";

  public static void main(String[] args) {
    everyKind();
    noughtsBetween();
    patches();
    columns();
    rightAndWhose();
    parts();
    sumsThatAreNone();
    CHECK.end();
  }

  private static void answers(String promise, OwnWays x, int a, int b, int... due) {
    for (int w = 0; w < due.length; w++) {
      CHECK.due(promise + " work(" + w + ", " + a + ", " + b + ")", x.work(w, a, b), due[w]);
    }
  }

  private static void everyKind() {
    OwnWays x = Check.classOf(TEN_WAYS);
    answers("P7", x, 5203, 1746, 3457, 4543, 4000, 4567, 3367, 3457, 3460, 4567, 3466, 3463);
    answers("P7", x, 9999, 0, 9999, 9999, 9999, 9999, 9999, 9999, 9999, 9999, 9999, 9999);
    answers("P7", x, 0, 0, 0, 0, 0, 0, 0, 0, 0, 0, 0, 0);
    answers("P7", x, 9999, 9999, 0, 0, 0, 0, 0, 0, 0, 0, 0, 0);
    answers("P7", x, 42, 17, 25, 35, 30, 35, 25, 25, 25, 35, 25, 25);
  }

  private static void noughtsBetween() {
    OwnWays x = Check.classOf("y001;y401;y501;");
    answers("P7 noughts", x, 5000, 1, 4999, 4009, 5001);
    answers("P7 noughts", x, 5002, 3, 4999, 4009, 4999);
    answers("P7 stuck again and again", x, 2103, 1994, 109, 119, 1909);
    answers("P7 no such column", x, 1105, 1096, 9, 19, 9);
    answers("P7 no such column", x, 1005, 996, 9, 9, 9);
    answers("P7 a nought turned about", x, 300, 87, 213, 123, 387);
  }

  private static void patches() {
    OwnWays x = Check.classOf("y601;y611;y621;y631;y641;y651;y661;y671;y681;y691;");
    answers("P7 by figures", x, 507, 49, 460, 462, 468, 469, 460, 462, 468, 469, 460, 462);
    answers("P7 as across", x, 517, 49, 468, 468, 468, 468, 468, 468, 468, 468, 468, 468);
    answers("P7 both", x, 1105, 1096, 10, 11, 19, 16);
  }

  private static void columns() {
    OwnWays x = Check.classOf(TEN_WAYS);
    int[] digits = {7, 6, 3, 3};
    int[] stuckAcross = {1, 1, 1, 0};
    int[] stuckRightly = {1, 0, 1, 0};
    for (int c = 0; c < 4; c++) {
      CHECK.due("P8 digit " + c, x.column(4, 5203, 1746, c, 0), digits[c]);
      CHECK.due("P8 stuck across " + c, x.column(4, 5203, 1746, c, 1), stuckAcross[c]);
      CHECK.due("P8 stuck rightly " + c, x.column(0, 5203, 1746, c, 1), stuckRightly[c]);
    }
    CHECK.due("P8 digit 0 ahead", x.column(0, 42, 17, 3, 0), 0);
    CHECK.due("P8 way", x.column(10, 42, 17, 0, 0), -1);
    CHECK.due("P8 way -1", x.column(-1, 42, 17, 0, 0), -1);
    CHECK.due("P8 sum", x.column(0, 17, 42, 0, 0), -1);
    CHECK.due("P8 column -1", x.column(0, 42, 17, -1, 0), -1);
    CHECK.due("P8 column 4", x.column(0, 42, 17, 4, 0), -1);
    CHECK.due("P8 what -1", x.column(0, 42, 17, 0, -1), -1);
    CHECK.due("P8 what 2", x.column(0, 42, 17, 0, 2), -1);
  }

  private static void rightAndWhose() {
    OwnWays x = Check.classOf(TEN_WAYS);
    CHECK.due("P9 some", x.right(5203, 1746), 33);
    CHECK.due("P9 all", x.right(88, 11), 1023);
    CHECK.due("P9 a nought where it's right", x.right(10, 10), 1023);
    CHECK.due("P9 no ways", new OwnWays().right(5, 3), 0);
    CHECK.due("P11 two", x.whose(5203, 1746, 4567), 136);
    CHECK.due("P11 the right one's", x.whose(5203, 1746, 3457), 33);
    CHECK.due("P11 nobody's", x.whose(5203, 1746, 1), 0);
    CHECK.due("P11 the least", x.whose(7, 7, 0), 1023);
    CHECK.due("P11 the greatest", x.whose(9999, 0, 9999), 1023);
    CHECK.due("P11 no ways", new OwnWays().whose(5, 3, 2), 0);
    CHECK.due("P11 answer -1", x.whose(42, 17, -1), -1);
    CHECK.due("P11 answer 10000", x.whose(42, 17, 10000), -1);
  }

  private static void parts() {
    OwnWays x = Check.classOf(TEN_WAYS);
    CHECK.due("P10 all", x.parts(5203, 1746, 1023), 8);
    CHECK.due("P10 none told", x.parts(5203, 1746, 0), 0);
    CHECK.due("P10 one told", x.parts(5203, 1746, 512), 1);
    CHECK.due("P10 alike", x.parts(5203, 1746, 136), 1);
    CHECK.due("P10 unlike", x.parts(5203, 1746, 6), 2);
    CHECK.due("P10 the first alone", x.parts(5203, 1746, 1), 1);
    CHECK.due("P10 all alike", x.parts(88, 11, 1023), 1);
    CHECK.due("P10 a way that isn't", x.parts(88, 11, 1024), -1);
    CHECK.due("P10 below 0", x.parts(88, 11, -1), -1);
    CHECK.due("P10 no ways", new OwnWays().parts(5, 3, 1), -1);
    CHECK.due("P10 no ways, none told", new OwnWays().parts(5, 3, 0), 0);
  }

  private static void sumsThatAreNone() {
    OwnWays x = Check.classOf(TEN_WAYS);
    int[][] none = {{17, 42}, {10000, 1}, {-1, -1}, {5, -1}, {10000, 10000}, {-5, 3},
      {2147483647, 1}, {-2147483648, -2147483648}};
    for (int[] sum : none) {
      String told = sum[0] + ", " + sum[1];
      CHECK.due("P7 " + told, x.work(0, sum[0], sum[1]), -1);
      CHECK.due("P8 " + told, x.column(0, sum[0], sum[1], 0, 0), -1);
      CHECK.due("P9 " + told, x.right(sum[0], sum[1]), -1);
      CHECK.due("P10 " + told, x.parts(sum[0], sum[1], 1), -1);
      CHECK.due("P11 " + told, x.whose(sum[0], sum[1], 0), -1);
    }
    CHECK.due("P7 way 10", x.work(10, 42, 17), -1);
    CHECK.due("P7 way -1", x.work(-1, 42, 17), -1);
    CHECK.due("P7 no ways", new OwnWays().work(0, 42, 17), -1);
  }
}
