import java.util.Arrays;

/** Calls by name: of the class, and of Model. */
final class Dispatch {
  static final long ILLEGAL_ARGUMENT = 1L << 40;
  static final long ILLEGAL_STATE = 1L << 41;

  private Dispatch() {}

  /** What the class answers, or a number that no call answers for what it throws; any other exception goes on. */
  static long ownAnswer(OwnWays x, String name, int[] a) {
    try {
      return own(x, name, a);
    } catch (IllegalArgumentException e) {
      return thrown(e, IllegalArgumentException.class, ILLEGAL_ARGUMENT);
    } catch (IllegalStateException e) {
      return thrown(e, IllegalStateException.class, ILLEGAL_STATE);
    }
  }

  private static long thrown(RuntimeException e, Class<?> due, long answer) {
    if (e.getClass() != due) {
      throw e;
    }
    return answer;
  }

  /** What Model answers, in the same numbers. */
  static long modelAnswer(Model x, String name, int[] a) {
    try {
      return model(x, name, a);
    } catch (Model.Refused refused) {
      return refused.answer;
    } catch (IllegalArgumentException e) {
      return ILLEGAL_ARGUMENT;
    } catch (IllegalStateException e) {
      return ILLEGAL_STATE;
    }
  }

  /** Both answer, and answer alike, unless the document leaves it open. */
  static void alike(Check check, String run, OwnWays own, Model model, String name, int... a) {
    long due = modelAnswer(model, name, a);
    long got = ownAnswer(own, name, a);
    if (!model.leavesOpen(name, a, due)) {
      check.due(run + name + Arrays.toString(a), got, due);
    }
  }

  static long own(OwnWays x, String name, int[] a) {
    switch (name) {
      case "group": return x.group(a[0]);
      case "way": return x.way(a[0], a[1]);
      case "child": return x.child(a[0], a[1]);
      case "told": return x.told(a[0], a[1]);
      case "slips": return x.slips(a[0], a[1]);
      case "work": return x.work(a[0], a[1], a[2]);
      case "column": return x.column(a[0], a[1], a[2], a[3], a[4]);
      case "right": return x.right(a[0], a[1]);
      case "parts": return x.parts(a[0], a[1], a[2]);
      case "whose": return x.whose(a[0], a[1], a[2]);
      case "slip": return x.slip(a[0], a[1], a[2]);
      case "fits": return x.fits(a[0], a[1], a[2]);
      case "likely": return x.likely(a[0], a[1]);
      case "odds": return x.odds(a[0], a[1], a[2], a[3]);
      case "held": return x.held(a[0], a[1], a[2], a[3], a[4]);
      case "most": return x.most(a[0], a[1]);
      case "apart": return x.apart(a[0], a[1], a[2]);
      case "never": return x.never(a[0], a[1]);
      case "luck": return x.luck(a[0], a[1], a[2]);
      case "clash": return x.clash(a[0]);
      case "comes": return x.comes(a[0], a[1]);
      case "day": return x.day(a[0], a[1], a[2], a[3]);
      case "say": return x.say(a[0], a[1]);
      case "bestSaying": return x.bestSaying(a[0]);
      case "weeks": return x.weeks(a[0], a[1], a[2], a[3]);
      case "groups": return x.groups(a[0]);
      case "greatest": return x.greatest();
      case "lesson": return x.lesson(a[0]);
      case "lacks": return x.lacks(a[0], a[1]);
      case "copied": return x.copied(a[0], a[1], a[2], a[3]);
      case "judge": return x.judge(a[0], a[1]);
      case "image": return x.image();
      case "restore": return x.restore();
      case "count": return x.count(a[0]);
      case "keep": return x.keep(a[0], a[1], a[2]);
      case "row": return x.row(a[0], a[1], a[2]);
      case "put": return x.put(a[0], a[1], a[2]);
      case "element": return x.element(a[0], a[1]);
      case "copy": return x.copy(a[0], a[1], a[2], a[3], a[4]);
      case "cost": return x.cost(a[0]);
      case "toss": return x.toss(a[0]);
      default: throw new AssertionError(name);
    }
  }

  static long model(Model x, String name, int[] a) {
    switch (name) {
      case "group": return x.group(a[0]);
      case "way": return x.way(a[0], a[1]);
      case "child": return x.child(a[0], a[1]);
      case "told": return x.told(a[0], a[1]);
      case "slips": return x.slips(a[0], a[1]);
      case "work": return x.work(a[0], a[1], a[2]);
      case "column": return x.column(a[0], a[1], a[2], a[3], a[4]);
      case "right": return x.right(a[0], a[1]);
      case "parts": return x.parts(a[0], a[1], a[2]);
      case "whose": return x.whose(a[0], a[1], a[2]);
      case "slip": return x.slip(a[0], a[1], a[2]);
      case "fits": return x.fits(a[0], a[1], a[2]);
      case "likely": return x.likely(a[0], a[1]);
      case "odds": return x.odds(a[0], a[1], a[2], a[3]);
      case "held": return x.held(a[0], a[1], a[2], a[3], a[4]);
      case "most": return x.most(a[0], a[1]);
      case "apart": return x.apart(a[0], a[1], a[2]);
      case "never": return x.never(a[0], a[1]);
      case "luck": return x.luck(a[0], a[1], a[2]);
      case "clash": return x.clash(a[0]);
      case "comes": return x.comes(a[0], a[1]);
      case "day": return x.day(a[0], a[1], a[2], a[3]);
      case "say": return x.say(a[0], a[1]);
      case "bestSaying": return x.bestSaying(a[0]);
      case "weeks": return x.weeks(a[0], a[1], a[2], a[3]);
      case "groups": return x.groups(a[0]);
      case "greatest": return x.greatest();
      case "lesson": return x.lesson(a[0]);
      case "lacks": return x.lacks(a[0], a[1]);
      case "copied": return x.copied(a[0], a[1], a[2], a[3]);
      case "judge": return x.judge(a[0], a[1]);
      case "image": return x.image();
      case "restore": return x.restore();
      case "count": return x.count(a[0]);
      case "keep": return x.keep(a[0], a[1], a[2]);
      case "row": return x.row(a[0], a[1], a[2]);
      case "put": return x.put(a[0], a[1], a[2]);
      case "element": return x.element(a[0], a[1]);
      case "copy": return x.copy(a[0], a[1], a[2], a[3], a[4]);
      case "cost": return x.cost(a[0]);
      case "toss": return x.toss(a[0]);
      default: throw new AssertionError(name);
    }
  }
}
