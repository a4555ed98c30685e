/** Promises 33 to 35: the image, what is told. */
public final class ImageTest {
  private static final Check CHECK = new Check("ImageTest");

  public static void main(String[] args) {
    imageAndRestore();
    theImageStays();
    shelvesStay();
    anEmptyImage();
    count();
    CHECK.end();
  }

  private static void imageAndRestore() {
    OwnWays x = Check.classOf("y013;y105;k17;k00;t10;");
    CHECK.due("P34 none yet", x.restore(), -3);
    CHECK.due("P33 image", x.image(), 2);
    x.say(0, 0);
    x.slips(1, 33);
    Check.group(x, "y209;k29;t203;t11;");
    CHECK.due("then ways", x.count(0), 3);
    CHECK.due("P34 restore", x.restore(), 2);
    CHECK.due("P34 ways", x.count(0), 2);
    CHECK.due("P34 weights", x.count(3), 8);
    CHECK.due("P34 children", x.count(1), 2);
    CHECK.due("P34 sayings", x.count(5), 1);
    CHECK.due("P34 what a child holds", x.child(0, 0), 1);
    CHECK.due("P34 slips", x.child(1, 1), 0);
    CHECK.due("P34 told", x.told(0, 1), 0);
    CHECK.due("P34 a way less", x.way(2, 0), -1);
    CHECK.due("P34 a child less", x.child(2, 0), -1);
  }

  private static void theImageStays() {
    OwnWays x = Check.classOf("y013;y105;k17;t10;");
    x.image();
    x.say(0, 0);
    CHECK.due("P34 once", x.restore(), 1);
    x.say(0, 0);
    x.slips(0, 1);
    Check.group(x, "k00;");
    CHECK.due("P34 twice", x.restore(), 1);
    CHECK.due("P34 as it was then", x.child(0, 0), 1);
    CHECK.due("P34 slips as then", x.child(0, 1), 7);
    x.say(0, 0);
    CHECK.due("P33 another image", x.image(), 1);
    x.restore();
    CHECK.due("P33 takes the place of the first", x.child(0, 0), 0);
    CHECK.due("P34 held first", x.child(0, 2), 1);
  }

  private static void shelvesStay() {
    OwnWays x = Check.classOf("y013;");
    x.image();
    Check.group(x, "y765;");
    x.keep(3, 1, 1);
    x.row(4, 1, 2);
    x.put(4, 1, 9);
    x.restore();
    CHECK.due("P34 the way on a shelf", x.cost(3), 13);
    CHECK.due("P34 its failure", x.toss(3), 213);
    CHECK.due("P34 the row on a shelf", x.element(4, 1), 9);
    Check.group(x, "y105;");
    CHECK.due("P34 another way of that number", x.way(1, 3), 8);
    CHECK.due("P34 the shelf's way is the old one", x.cost(3), 13);
    x.image();
    x.keep(3, 0, 0);
    x.restore();
    CHECK.due("P34 an empty shelf", x.cost(3), -11);
  }

  private static void anEmptyImage() {
    OwnWays x = new OwnWays();
    CHECK.due("P33 of nothing", x.image(), 0);
    Check.group(x, "y013;k00;");
    CHECK.due("P34 of nothing", x.restore(), 0);
    CHECK.due("P34 no ways", x.count(0), 0);
    CHECK.due("P34 room again", Check.group(x, "y001;".repeat(10)), 10);
  }

  private static void count() {
    OwnWays x = Check.classOf("y0110;y105;y003;k00;k00;k10;t10;t101;t02;t12;t00;");
    CHECK.due("P35 ways", x.count(0), 3);
    CHECK.due("P35 children", x.count(1), 3);
    CHECK.due("P35 ways of kind 0", x.count(2), 2);
    CHECK.due("P35 weights", x.count(3), 18);
    CHECK.due("P35 none changed", x.count(4), 0);
    CHECK.due("P35 sayings", x.count(5), 3);
    Check.group(x, "t02;t028;");
    x.say(0, 8);
    x.say(2, 0);
    CHECK.due("P35 two changed", x.count(4), 2);
    CHECK.due("P35 a saying more", x.count(5), 4);
    CHECK.due("P35 what -1", x.count(-1), -1);
    CHECK.due("P35 what 6", x.count(6), -1);
    Check.group(x, "t208;");
    x.say(0, 8);
    CHECK.due("P35 back to the first", x.count(4), 1);
  }
}
