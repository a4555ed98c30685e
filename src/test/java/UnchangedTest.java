import java.util.Arrays;

/** A refused call changes nothing, nor does one that only tells; and what a call changes is what it says. */
public final class UnchangedTest {
  private static final Check CHECK = new Check("UnchangedTest");
  private static final int LEAST = -2147483648;
  private static final int GREATEST = 2147483647;

  // Shelf 0 a text with a fault, 1 a way, 2 nothing, 3 shorts, 4 a sheet, 5 its answers, 6 one to be judged, 7 bytes.
  private static final Object[][] REFUSED = {
    {"group", 0}, {"group", 1}, {"group", 2}, {"group", 3}, {"group", -1}, {"group", 8}, {"group", 7},
    {"way", 3, 0}, {"way", 0, 4}, {"child", 2, 0}, {"child", 0, 3}, {"told", 10, 0}, {"told", 0, 3},
    {"slips", 2, 5}, {"slips", -1, 5}, {"slips", 0, 51}, {"slips", 0, -1}, {"slips", 1, GREATEST},
    {"work", 3, 42, 17}, {"work", 0, 17, 42}, {"column", 0, 42, 17, 4, 0}, {"right", 17, 42}, {"parts", 42, 17, 8},
    {"whose", 42, 17, 10000}, {"slip", 3, 4, 5}, {"slip", 0, 4, 2}, {"fits", 4, 5, 13}, {"fits", 4, 4, 0},
    {"likely", 4, 3}, {"odds", 0, 4, 5, 2}, {"held", 4, 5, -1, 0, 0}, {"most", 4, 8}, {"most", 3, 1}, {"apart", 4, 1, 2},
    {"never", 4, -1}, {"luck", 0, 4, 2}, {"clash", 3}, {"comes", 0, 0}, {"comes", 0, 41},
    {"day", 2, 4, 5, 1}, {"day", -1, 4, 5, 1}, {"day", 0, 4, 8, 1}, {"day", 0, 4, -1, 1}, {"day", 0, 8, 5, 1},
    {"day", 0, 2, 5, 1}, {"day", 0, 1, 5, 1}, {"day", 0, 3, 5, 1}, {"day", 0, 6, 5, 1},
    {"say", 2, 0}, {"say", -1, 0}, {"say", 0, 10}, {"say", 0, -1}, {"bestSaying", 3}, {"bestSaying", 2},
    {"weeks", 0, 50, 50, 1}, {"weeks", 21, 50, 50, 1}, {"weeks", 5, 101, 0, 1}, {"weeks", 5, 0, 101, 1},
    {"groups", 8}, {"lesson", 4}, {"lacks", 4, 2}, {"copied", 4, 5, 5, 2}, {"copied", 4, 5, 2, 0}, {"judge", 3, 6},
    {"judge", 0, 2}, {"judge", 0, 1}, {"count", 6}, {"count", -1},
    {"keep", 8, 0, 0}, {"keep", -1, 0, 0}, {"keep", 4, 2, 0}, {"keep", 4, -1, 0}, {"keep", 4, 1, 3}, {"keep", 1, 1, -1},
    {"row", 8, 0, 1}, {"row", -1, 0, 1}, {"row", 4, 3, 1}, {"row", 4, -1, 1}, {"row", 4, 2, 101}, {"row", 4, 2, -1},
    {"row", 1, 0, LEAST}, {"row", 5, 2, GREATEST}, {"put", 8, 0, 1}, {"put", 2, 0, 1}, {"put", 1, 0, 1}, {"put", 4, -1, 1},
    {"put", 4, 4, 1}, {"put", 7, 2, 1}, {"copy", 4, 0, 8, 0, 1}, {"copy", -1, 0, 5, 0, 1}, {"copy", 4, 0, 2, 0, 1},
    {"copy", 2, 0, 4, 0, 1}, {"copy", 4, 0, 1, 0, 1}, {"copy", 4, 0, 3, 0, 1}, {"copy", 4, 0, 5, 0, 3},
    {"copy", 4, 0, 5, 1, 2}, {"copy", 4, 3, 5, 0, 2}, {"copy", 4, 0, 5, 0, -1}, {"copy", 4, -1, 5, 0, 2},
    {"copy", 4, 0, 5, -1, 2}, {"copy", 4, 1, 5, 0, GREATEST}, {"cost", 2}, {"cost", 4}, {"cost", 8}, {"toss", 2},
    {"toss", 4}, {"toss", 8}};
  private static final Object[][] TELLING = {
    {"way", 1, 3}, {"child", 1, 2}, {"told", 0, 1}, {"work", 1, 42, 17}, {"column", 1, 42, 17, 0, 1}, {"right", 42, 17},
    {"parts", 42, 17, 7}, {"whose", 42, 17, 35}, {"slip", 1, 4, 5}, {"fits", 4, 5, 1}, {"likely", 4, 5},
    {"odds", 1, 4, 5, 1}, {"held", 4, 5, 420017, 35, 0}, {"most", 4, 7}, {"apart", 4, 7, 1}, {"never", 4, 7},
    {"luck", 0, 4, 0}, {"clash", 1}, {"comes", 1, 40}, {"bestSaying", 4}, {"weeks", 20, 90, 10, 7}, {"groups", 1},
    {"greatest"}, {"lesson", 2}, {"lacks", 4, 5}, {"copied", 4, 5, 5, 1}, {"judge", 1, 6}, {"judge", 0, 6}, {"count", 3},
    {"cost", 1}, {"toss", 1}, {"copy", 4, 1, 5, 1, 0}, {"slips", 0, 20}, {"keep", 2, 0, 99}, {"say", 0, 7}, {"image"}};

  public static void main(String[] args) {
    long[] before = all(school());
    CHECK.holds("two objects of one making are alike", Arrays.equals(before, all(school())));
    for (Object[] call : REFUSED) {
      changesNothing(call, before, true);
    }
    for (Object[] call : TELLING) {
      changesNothing(call, before, false);
    }
    elementChangesNothing(before);
    restoreOfNoneChangesNothing();
    whatChangesTheImageNot();
    CHECK.end();
  }

  private static OwnWays school() {
    OwnWays x = Check.classOf("y003;y145;y7620;k120;k250;t10;t123;");
    Check.bytes(x, 0, "y001;k20;t01;k9");
    x.keep(1, 1, 2);
    Check.fill(x, 3, 1, 42, 17);
    Check.ints(x, 4, 42, 17, 61, 48);
    Check.ints(x, 5, 35, 27);
    Check.fill(x, 6, 1, 42, 17, 5);
    Check.fill(x, 7, 0, -3, 4);
    return x;
  }

  private static final int[] SIZES = {15, 0, 0, 2, 4, 2, 3, 2};

  /** All that can be told of an object in some 150 calls, none of which changes it. */
  private static long[] all(OwnWays x) {
    long[] told = new long[300];
    int n = 0;
    for (int what = 0; what <= 5; what++) {
      told[n++] = x.count(what);
    }
    for (int w = 0; w < 4; w++) {
      for (int what = 0; what < 4; what++) {
        told[n++] = x.way(w, what);
        told[n++] = what < 3 && w < 3 ? x.child(w, what) : 0;
      }
      told[n++] = x.told(0, w);
      told[n++] = x.told(3, w);
    }
    for (int d = 0; d < 8; d++) {
      told[n++] = x.cost(d);
      told[n++] = x.toss(d);
      // A row of ints by -12, one of bytes by its fault: no text here is without one.
      told[n++] = x.fits(d, d, 0);
      told[n++] = x.group(d);
      for (int i = 0; i <= SIZES[d]; i++) {
        int thrown = Check.thrownByElement(x, d, i);
        told[n++] = thrown > 0 ? 1000000 + thrown : x.element(d, i);
      }
    }
    return told;
  }

  private static String name(Object[] call) {
    return (String) call[0];
  }

  private static int[] arguments(Object[] call) {
    int[] a = new int[call.length - 1];
    for (int i = 0; i < a.length; i++) {
      a[i] = (Integer) call[i + 1];
    }
    return a;
  }

  private static void changesNothing(Object[] call, long[] before, boolean isRefused) {
    String what = Arrays.toString(call);
    OwnWays x = school();
    x.image();
    long answer = Dispatch.own(x, name(call), arguments(call));
    if (isRefused) {
      CHECK.holds(what + " is refused: " + answer, answer < 0);
    } else {
      CHECK.holds(what + " isn't refused: " + answer, answer >= 0 || answer == -4);
    }
    CHECK.holds(what + " changes nothing", Arrays.equals(before, all(x)));
    x.slips(0, 49);
    CHECK.due(what + ": the image is there still", x.restore(), 2);
    CHECK.holds(what + " doesn't change the image", Arrays.equals(before, all(x)));
  }

  private static void elementChangesNothing(long[] before) {
    OwnWays x = school();
    int[][] asked = {{8, 0}, {-1, 0}, {2, 0}, {1, 0}, {4, 4}, {4, -1}, {4, 0}};
    for (int[] a : asked) {
      Check.thrownByElement(x, a[0], a[1]);
    }
    CHECK.holds("element changes nothing", Arrays.equals(before, all(x)));
  }

  private static void restoreOfNoneChangesNothing() {
    OwnWays x = school();
    long[] before = all(x);
    CHECK.due("P34 there is none", x.restore(), -3);
    CHECK.holds("P34 refused it changes nothing", Arrays.equals(before, all(x)));
    OwnWays none = new OwnWays();
    CHECK.due("P26 no children", none.weeks(1, 1, 1, 1), -3);
    CHECK.due("P34 none still", none.restore(), -3);
  }

  /** Calls that change the object leave the image as it was taken. */
  private static void whatChangesTheImageNot() {
    OwnWays x = school();
    long[] before = all(x);
    x.image();
    x.slips(0, 7);
    x.slips(1, 8);
    x.say(0, 0);
    x.say(1, 3);
    Check.bytes(x, 2, "y409;k30;t103;t025;t10;t11;");
    CHECK.due("a text more", x.group(2), 6);
    x.keep(2, 0, 0);
    CHECK.due("a child holds another way", x.child(0, 0), 0);
    CHECK.due("ways then", x.count(0), 4);
    CHECK.due("P34 restored", x.restore(), 2);
    CHECK.holds("P34 all is as it was then", Arrays.equals(before, all(x)));
  }
}
